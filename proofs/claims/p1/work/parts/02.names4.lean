theorem dX4_openTo_41 : decode cX4_openTo 41 = .ok (.iload_n 2, 1) := by decide +kernel
theorem dX4_openTo_42 : decode cX4_openTo 42 = .ok (.ireturn, 1) := by decide +kernel
set_option maxRecDepth 20000 in
theorem ggX4_crown_X4_bit : GoodIn wsX4_crown wsX4_bit := goodIn_r _ [6] (by decide +kernel) (by decide +kernel)
set_option maxRecDepth 20000 in
theorem gX4_crown_X4_bit : GoodIn wsX4_crown (va_wsS RX4 120 yX4_bit wsX4_bit) := goodIn_app (goodIn_of _ (by decide +kernel)) ggX4_crown_X4_bit
theorem dX4_crown_0 : decode cX4_crown 0 = .ok (.aload_n 0, 1) := by decide +kernel
theorem dX4_crown_1 : decode cX4_crown 1 = .ok (.iload_n 1, 1) := by decide +kernel
theorem dX4_crown_2 : decode cX4_crown 2 = .ok (.putfield 41, 3) := by decide +kernel
theorem dX4_crown_5 : decode cX4_crown 5 = .ok (.iload_n 1, 1) := by decide +kernel
theorem dX4_crown_6 : decode cX4_crown 6 = .ok (.iconst (-1), 1) := by decide +kernel
theorem dX4_crown_7 : decode cX4_crown 7 = .ok (.if_icmp .eq 16, 3) := by decide +kernel
theorem dX4_crown_10 : decode cX4_crown 10 = .ok (.aload_n 0, 1) := by decide +kernel
theorem dX4_crown_11 : decode cX4_crown 11 = .ok (.dup, 1) := by decide +kernel
theorem dX4_crown_12 : decode cX4_crown 12 = .ok (.getfield 302, 3) := by decide +kernel
theorem dX4_crown_15 : decode cX4_crown 15 = .ok (.iload_n 1, 1) := by decide +kernel
theorem dX4_crown_16 : decode cX4_crown 16 = .ok (.invokestatic 120, 3) := by decide +kernel
theorem dX4_crown_19 : decode cX4_crown 19 = .ok (.ior, 1) := by decide +kernel
theorem dX4_crown_20 : decode cX4_crown 20 = .ok (.putfield 302, 3) := by decide +kernel
theorem dX4_crown_23 : decode cX4_crown 23 = .ok (.return_, 1) := by decide +kernel
set_option maxRecDepth 20000 in
theorem ggX4_winnerWithout_X4_countVotes : GoodIn wsX4_winnerWithout wsX4_countVotes := goodIn_r _ [7, 8, 9, 10, 11, 12, 6, 13, 14, 15, 16, 17, 18, 19, 20, 21, 22, 23, 24, 25, 26, 27, 28, 29, 30, 31, 32, 33, 34, 35, 63, 64, 65, 66, 67, 68, 69, 70, 71, 72, 73, 74, 75, 76, 77, 78, 79, 80, 81, 82, 83, 84, 85, 86, 87, 88, 89, 90, 91, 92, 93, 94, 95, 96, 97, 98, 99, 100, 101, 102, 103, 104, 105, 106, 107, 108] (by decide +kernel) (by decide +kernel)
set_option maxRecDepth 20000 in
theorem gX4_winnerWithout_X4_countVotes : GoodIn wsX4_winnerWithout (wsV RX4 476 RX4 yX4_countVotes wsX4_countVotes) := goodIn_app (goodIn_of _ (by decide +kernel)) ggX4_winnerWithout_X4_countVotes
set_option maxRecDepth 20000 in
theorem ggX4_winnerWithout_X4_aboveHalf : GoodIn wsX4_winnerWithout wsX4_aboveHalf := goodIn_r _ [39, 18, 8, 11, 12, 6, 13, 63, 64, 65, 66, 67, 68, 69, 70, 71, 72, 73, 74, 75, 76, 77, 78, 79, 80, 81] (by decide +kernel) (by decide +kernel)
set_option maxRecDepth 20000 in
theorem gX4_winnerWithout_X4_aboveHalf : GoodIn wsX4_winnerWithout (wsV RX4 479 RX4 yX4_aboveHalf wsX4_aboveHalf) := goodIn_app (goodIn_of _ (by decide +kernel)) ggX4_winnerWithout_X4_aboveHalf
set_option maxRecDepth 20000 in
theorem ggX4_winnerWithout_X4_weakestOf : GoodIn wsX4_winnerWithout wsX4_weakestOf := goodIn_r _ [43, 18, 8, 11, 12, 6, 13, 44, 45, 46, 47, 9, 10, 48, 49, 50, 51, 52, 19, 20, 21, 22, 23, 24, 25, 26, 53, 54, 55, 56, 57, 58, 59, 60, 61, 62, 63, 64, 65, 66, 67, 68, 69, 70, 71, 72, 73, 74, 75, 76, 77, 78, 79, 80, 81, 93, 94, 95, 96, 97, 98, 99, 100, 101, 102, 103, 104, 105, 106, 107, 108, 82, 83, 84, 85, 86, 87, 88, 89, 90, 91, 92] (by decide +kernel) (by decide +kernel)
set_option maxRecDepth 20000 in
theorem gX4_winnerWithout_X4_weakestOf : GoodIn wsX4_winnerWithout (wsV RX4 482 RX4 yX4_weakestOf wsX4_weakestOf) := goodIn_app (goodIn_of _ (by decide +kernel)) ggX4_winnerWithout_X4_weakestOf
set_option maxRecDepth 20000 in
theorem ggX4_winnerWithout_X4_bit : GoodIn wsX4_winnerWithout wsX4_bit := goodIn_r _ [29] (by decide +kernel) (by decide +kernel)
set_option maxRecDepth 20000 in
theorem gX4_winnerWithout_X4_bit : GoodIn wsX4_winnerWithout (va_wsS RX4 120 yX4_bit wsX4_bit) := goodIn_app (goodIn_of _ (by decide +kernel)) ggX4_winnerWithout_X4_bit
theorem dX4_winnerWithout_0 : decode cX4_winnerWithout 0 = .ok (.aload_n 0, 1) := by decide +kernel
theorem dX4_winnerWithout_1 : decode cX4_winnerWithout 1 = .ok (.getfield 246, 3) := by decide +kernel
theorem dX4_winnerWithout_4 : decode cX4_winnerWithout 4 = .ok (.aload_n 0, 1) := by decide +kernel
theorem dX4_winnerWithout_5 : decode cX4_winnerWithout 5 = .ok (.getfield 273, 3) := by decide +kernel
theorem dX4_winnerWithout_8 : decode cX4_winnerWithout 8 = .ok (.iconst (-1), 1) := by decide +kernel
theorem dX4_winnerWithout_9 : decode cX4_winnerWithout 9 = .ok (.ixor, 1) := by decide +kernel
theorem dX4_winnerWithout_10 : decode cX4_winnerWithout 10 = .ok (.iand, 1) := by decide +kernel
theorem dX4_winnerWithout_11 : decode cX4_winnerWithout 11 = .ok (.iload_n 1, 1) := by decide +kernel
theorem dX4_winnerWithout_12 : decode cX4_winnerWithout 12 = .ok (.iconst (-1), 1) := by decide +kernel
theorem dX4_winnerWithout_13 : decode cX4_winnerWithout 13 = .ok (.ixor, 1) := by decide +kernel
theorem dX4_winnerWithout_14 : decode cX4_winnerWithout 14 = .ok (.iand, 1) := by decide +kernel
theorem dX4_winnerWithout_15 : decode cX4_winnerWithout 15 = .ok (.istore_n 3, 1) := by decide +kernel
theorem dX4_winnerWithout_16 : decode cX4_winnerWithout 16 = .ok (.iconst (-1), 1) := by decide +kernel
theorem dX4_winnerWithout_17 : decode cX4_winnerWithout 17 = .ok (.istore 4, 2) := by decide +kernel
theorem dX4_winnerWithout_19 : decode cX4_winnerWithout 19 = .ok (.iconst 0, 1) := by decide +kernel
theorem dX4_winnerWithout_20 : decode cX4_winnerWithout 20 = .ok (.istore 5, 2) := by decide +kernel
theorem dX4_winnerWithout_22 : decode cX4_winnerWithout 22 = .ok (.iload 5, 2) := by decide +kernel
theorem dX4_winnerWithout_24 : decode cX4_winnerWithout 24 = .ok (.bipush 16, 2) := by decide +kernel
theorem dX4_winnerWithout_26 : decode cX4_winnerWithout 26 = .ok (.if_icmp .ge 56, 3) := by decide +kernel
theorem dX4_winnerWithout_29 : decode cX4_winnerWithout 29 = .ok (.iload_n 3, 1) := by decide +kernel
theorem dX4_winnerWithout_30 : decode cX4_winnerWithout 30 = .ok (.ifCond .eq 52, 3) := by decide +kernel
theorem dX4_winnerWithout_33 : decode cX4_winnerWithout 33 = .ok (.aload_n 0, 1) := by decide +kernel
theorem dX4_winnerWithout_34 : decode cX4_winnerWithout 34 = .ok (.iload_n 3, 1) := by decide +kernel
theorem dX4_winnerWithout_35 : decode cX4_winnerWithout 35 = .ok (.iload_n 2, 1) := by decide +kernel
theorem dX4_winnerWithout_36 : decode cX4_winnerWithout 36 = .ok (.invokevirtual 476, 3) := by decide +kernel
theorem dX4_winnerWithout_39 : decode cX4_winnerWithout 39 = .ok (.istore 6, 2) := by decide +kernel
theorem dX4_winnerWithout_41 : decode cX4_winnerWithout 41 = .ok (.aload_n 0, 1) := by decide +kernel
theorem dX4_winnerWithout_42 : decode cX4_winnerWithout 42 = .ok (.iload_n 3, 1) := by decide +kernel
theorem dX4_winnerWithout_43 : decode cX4_winnerWithout 43 = .ok (.iload 6, 2) := by decide +kernel
theorem dX4_winnerWithout_45 : decode cX4_winnerWithout 45 = .ok (.invokevirtual 479, 3) := by decide +kernel
theorem dX4_winnerWithout_48 : decode cX4_winnerWithout 48 = .ok (.istore 7, 2) := by decide +kernel
theorem dX4_winnerWithout_50 : decode cX4_winnerWithout 50 = .ok (.iload 7, 2) := by decide +kernel
theorem dX4_winnerWithout_52 : decode cX4_winnerWithout 52 = .ok (.iconst (-1), 1) := by decide +kernel
theorem dX4_winnerWithout_53 : decode cX4_winnerWithout 53 = .ok (.if_icmp .eq 6, 3) := by decide +kernel
theorem dX4_winnerWithout_56 : decode cX4_winnerWithout 56 = .ok (.iload 7, 2) := by decide +kernel
theorem dX4_winnerWithout_58 : decode cX4_winnerWithout 58 = .ok (.ireturn, 1) := by decide +kernel
theorem dX4_winnerWithout_59 : decode cX4_winnerWithout 59 = .ok (.aload_n 0, 1) := by decide +kernel
theorem dX4_winnerWithout_60 : decode cX4_winnerWithout 60 = .ok (.iload_n 3, 1) := by decide +kernel
theorem dX4_winnerWithout_61 : decode cX4_winnerWithout 61 = .ok (.invokevirtual 482, 3) := by decide +kernel
theorem dX4_winnerWithout_64 : decode cX4_winnerWithout 64 = .ok (.istore 4, 2) := by decide +kernel
theorem dX4_winnerWithout_66 : decode cX4_winnerWithout 66 = .ok (.iload_n 3, 1) := by decide +kernel
theorem dX4_winnerWithout_67 : decode cX4_winnerWithout 67 = .ok (.iload 4, 2) := by decide +kernel
theorem dX4_winnerWithout_69 : decode cX4_winnerWithout 69 = .ok (.invokestatic 120, 3) := by decide +kernel
theorem dX4_winnerWithout_72 : decode cX4_winnerWithout 72 = .ok (.iconst (-1), 1) := by decide +kernel
theorem dX4_winnerWithout_73 : decode cX4_winnerWithout 73 = .ok (.ixor, 1) := by decide +kernel
theorem dX4_winnerWithout_74 : decode cX4_winnerWithout 74 = .ok (.iand, 1) := by decide +kernel
theorem dX4_winnerWithout_75 : decode cX4_winnerWithout 75 = .ok (.istore_n 3, 1) := by decide +kernel
theorem dX4_winnerWithout_76 : decode cX4_winnerWithout 76 = .ok (.iinc 5 1, 3) := by decide +kernel
theorem dX4_winnerWithout_79 : decode cX4_winnerWithout 79 = .ok (.goto (-57), 3) := by decide +kernel
theorem dX4_winnerWithout_82 : decode cX4_winnerWithout 82 = .ok (.iload 4, 2) := by decide +kernel
theorem dX4_winnerWithout_84 : decode cX4_winnerWithout 84 = .ok (.ireturn, 1) := by decide +kernel
set_option maxRecDepth 20000 in
theorem ggX4_countVotes_X4_has : GoodIn wsX4_countVotes wsX4_has := goodIn_r _ [7] (by decide +kernel) (by decide +kernel)
set_option maxRecDepth 20000 in
theorem gX4_countVotes_X4_has : GoodIn wsX4_countVotes (va_wsS RX4 223 yX4_has wsX4_has) := goodIn_app (goodIn_of _ (by decide +kernel)) ggX4_countVotes_X4_has
set_option maxRecDepth 20000 in
theorem ggX4_countVotes_X4_openTo : GoodIn wsX4_countVotes wsX4_openTo := goodIn_r _ [11, 12, 13, 14, 15, 16, 17, 18, 19, 20, 21, 22, 6, 23, 30, 31, 32, 33, 34, 35, 36, 37, 38, 39, 40, 41, 42, 43, 44, 45, 46, 47, 48, 49, 50, 51, 52, 53, 54, 55, 56, 57, 58, 59, 60, 61, 62, 63, 64, 65, 66, 67, 68, 69, 70, 71, 72, 73, 74, 75] (by decide +kernel) (by decide +kernel)
set_option maxRecDepth 20000 in
theorem gX4_countVotes_X4_openTo : GoodIn wsX4_countVotes (wsV RX4 485 RX4 yX4_openTo wsX4_openTo) := goodIn_app (goodIn_of _ (by decide +kernel)) ggX4_countVotes_X4_openTo
set_option maxRecDepth 20000 in
theorem ggX4_countVotes_X2_firstIn : GoodIn wsX4_countVotes wsX2_firstIn := goodIn_r _ [27, 28, 29, 5, 6, 7, 60, 61, 62, 63, 64, 65, 66, 67, 68, 69, 70, 71, 72, 73, 74, 75] (by decide +kernel) (by decide +kernel)
set_option maxRecDepth 20000 in
theorem gX4_countVotes_X2_firstIn : GoodIn wsX4_countVotes (wsV RX4 489 RX2 yX2_firstIn wsX2_firstIn) := goodIn_app (goodIn_of _ (by decide +kernel)) ggX4_countVotes_X2_firstIn
theorem dX4_countVotes_0 : decode cX4_countVotes 0 = .ok (.iconst 0, 1) := by decide +kernel
theorem dX4_countVotes_1 : decode cX4_countVotes 1 = .ok (.istore_n 3, 1) := by decide +kernel
theorem dX4_countVotes_2 : decode cX4_countVotes 2 = .ok (.iload_n 3, 1) := by decide +kernel
theorem dX4_countVotes_3 : decode cX4_countVotes 3 = .ok (.bipush 16, 2) := by decide +kernel
theorem dX4_countVotes_5 : decode cX4_countVotes 5 = .ok (.if_icmp .ge 16, 3) := by decide +kernel
theorem dX4_countVotes_8 : decode cX4_countVotes 8 = .ok (.aload_n 0, 1) := by decide +kernel
theorem dX4_countVotes_9 : decode cX4_countVotes 9 = .ok (.getfield 47, 3) := by decide +kernel
theorem dX4_countVotes_12 : decode cX4_countVotes 12 = .ok (.iload_n 3, 1) := by decide +kernel
theorem dX4_countVotes_13 : decode cX4_countVotes 13 = .ok (.iconst 0, 1) := by decide +kernel
theorem dX4_countVotes_14 : decode cX4_countVotes 14 = .ok (.iastore, 1) := by decide +kernel
theorem dX4_countVotes_15 : decode cX4_countVotes 15 = .ok (.iinc 3 1, 3) := by decide +kernel
theorem dX4_countVotes_18 : decode cX4_countVotes 18 = .ok (.goto (-16), 3) := by decide +kernel
theorem dX4_countVotes_21 : decode cX4_countVotes 21 = .ok (.iconst 0, 1) := by decide +kernel
theorem dX4_countVotes_22 : decode cX4_countVotes 22 = .ok (.istore_n 3, 1) := by decide +kernel
theorem dX4_countVotes_23 : decode cX4_countVotes 23 = .ok (.iconst 0, 1) := by decide +kernel
theorem dX4_countVotes_24 : decode cX4_countVotes 24 = .ok (.istore 4, 2) := by decide +kernel
theorem dX4_countVotes_26 : decode cX4_countVotes 26 = .ok (.iload 4, 2) := by decide +kernel
theorem dX4_countVotes_28 : decode cX4_countVotes 28 = .ok (.aload_n 0, 1) := by decide +kernel
theorem dX4_countVotes_29 : decode cX4_countVotes 29 = .ok (.getfield 102, 3) := by decide +kernel
theorem dX4_countVotes_32 : decode cX4_countVotes 32 = .ok (.if_icmp .ge 67, 3) := by decide +kernel
theorem dX4_countVotes_35 : decode cX4_countVotes 35 = .ok (.iload_n 2, 1) := by decide +kernel
theorem dX4_countVotes_36 : decode cX4_countVotes 36 = .ok (.iload 4, 2) := by decide +kernel
theorem dX4_countVotes_38 : decode cX4_countVotes 38 = .ok (.invokestatic 223, 3) := by decide +kernel
theorem dX4_countVotes_41 : decode cX4_countVotes 41 = .ok (.ifCond .eq 7, 3) := by decide +kernel
theorem dX4_countVotes_44 : decode cX4_countVotes 44 = .ok (.iconst (-1), 1) := by decide +kernel
theorem dX4_countVotes_45 : decode cX4_countVotes 45 = .ok (.goto 26, 3) := by decide +kernel
theorem dX4_countVotes_48 : decode cX4_countVotes 48 = .ok (.aload_n 0, 1) := by decide +kernel
theorem dX4_countVotes_49 : decode cX4_countVotes 49 = .ok (.getfield 23, 3) := by decide +kernel
theorem dX4_countVotes_52 : decode cX4_countVotes 52 = .ok (.iload 4, 2) := by decide +kernel
theorem dX4_countVotes_54 : decode cX4_countVotes 54 = .ok (.aaload, 1) := by decide +kernel
theorem dX4_countVotes_55 : decode cX4_countVotes 55 = .ok (.iload_n 1, 1) := by decide +kernel
theorem dX4_countVotes_56 : decode cX4_countVotes 56 = .ok (.aload_n 0, 1) := by decide +kernel
theorem dX4_countVotes_57 : decode cX4_countVotes 57 = .ok (.aload_n 0, 1) := by decide +kernel
theorem dX4_countVotes_58 : decode cX4_countVotes 58 = .ok (.getfield 23, 3) := by decide +kernel
theorem dX4_countVotes_61 : decode cX4_countVotes 61 = .ok (.iload 4, 2) := by decide +kernel
theorem dX4_countVotes_63 : decode cX4_countVotes 63 = .ok (.aaload, 1) := by decide +kernel
theorem dX4_countVotes_64 : decode cX4_countVotes 64 = .ok (.invokevirtual 485, 3) := by decide +kernel
theorem dX4_countVotes_67 : decode cX4_countVotes 67 = .ok (.iand, 1) := by decide +kernel
theorem dX4_countVotes_68 : decode cX4_countVotes 68 = .ok (.invokevirtual 489, 3) := by decide +kernel
theorem dX4_countVotes_71 : decode cX4_countVotes 71 = .ok (.istore 5, 2) := by decide +kernel
theorem dX4_countVotes_73 : decode cX4_countVotes 73 = .ok (.iload 5, 2) := by decide +kernel
theorem dX4_countVotes_75 : decode cX4_countVotes 75 = .ok (.iconst (-1), 1) := by decide +kernel
theorem dX4_countVotes_76 : decode cX4_countVotes 76 = .ok (.if_icmp .eq 17, 3) := by decide +kernel
theorem dX4_countVotes_79 : decode cX4_countVotes 79 = .ok (.aload_n 0, 1) := by decide +kernel
theorem dX4_countVotes_80 : decode cX4_countVotes 80 = .ok (.getfield 47, 3) := by decide +kernel
theorem dX4_countVotes_83 : decode cX4_countVotes 83 = .ok (.iload 5, 2) := by decide +kernel
theorem dX4_countVotes_85 : decode cX4_countVotes 85 = .ok (.dup2, 1) := by decide +kernel
theorem dX4_countVotes_86 : decode cX4_countVotes 86 = .ok (.iaload, 1) := by decide +kernel
theorem dX4_countVotes_87 : decode cX4_countVotes 87 = .ok (.iconst 1, 1) := by decide +kernel
theorem dX4_countVotes_88 : decode cX4_countVotes 88 = .ok (.iadd, 1) := by decide +kernel
theorem dX4_countVotes_89 : decode cX4_countVotes 89 = .ok (.iastore, 1) := by decide +kernel
theorem dX4_countVotes_90 : decode cX4_countVotes 90 = .ok (.iinc 3 1, 3) := by decide +kernel
theorem dX4_countVotes_93 : decode cX4_countVotes 93 = .ok (.iinc 4 1, 3) := by decide +kernel
theorem dX4_countVotes_96 : decode cX4_countVotes 96 = .ok (.goto (-70), 3) := by decide +kernel
theorem dX4_countVotes_99 : decode cX4_countVotes 99 = .ok (.iload_n 3, 1) := by decide +kernel
theorem dX4_countVotes_100 : decode cX4_countVotes 100 = .ok (.ireturn, 1) := by decide +kernel
set_option maxRecDepth 20000 in
theorem ggX4_aboveHalf_X4_has : GoodIn wsX4_aboveHalf wsX4_has := goodIn_r _ [6] (by decide +kernel) (by decide +kernel)
set_option maxRecDepth 20000 in
theorem gX4_aboveHalf_X4_has : GoodIn wsX4_aboveHalf (va_wsS RX4 223 yX4_has wsX4_has) := goodIn_app (goodIn_of _ (by decide +kernel)) ggX4_aboveHalf_X4_has
theorem dX4_aboveHalf_0 : decode cX4_aboveHalf 0 = .ok (.iconst 0, 1) := by decide +kernel
theorem dX4_aboveHalf_1 : decode cX4_aboveHalf 1 = .ok (.istore_n 3, 1) := by decide +kernel
theorem dX4_aboveHalf_2 : decode cX4_aboveHalf 2 = .ok (.iload_n 3, 1) := by decide +kernel
theorem dX4_aboveHalf_3 : decode cX4_aboveHalf 3 = .ok (.aload_n 0, 1) := by decide +kernel
theorem dX4_aboveHalf_4 : decode cX4_aboveHalf 4 = .ok (.getfield 85, 3) := by decide +kernel
theorem dX4_aboveHalf_7 : decode cX4_aboveHalf 7 = .ok (.if_icmp .ge 31, 3) := by decide +kernel
theorem dX4_aboveHalf_10 : decode cX4_aboveHalf 10 = .ok (.iload_n 1, 1) := by decide +kernel
theorem dX4_aboveHalf_11 : decode cX4_aboveHalf 11 = .ok (.iload_n 3, 1) := by decide +kernel
theorem dX4_aboveHalf_12 : decode cX4_aboveHalf 12 = .ok (.invokestatic 223, 3) := by decide +kernel
theorem dX4_aboveHalf_15 : decode cX4_aboveHalf 15 = .ok (.ifCond .eq 17, 3) := by decide +kernel
theorem dX4_aboveHalf_18 : decode cX4_aboveHalf 18 = .ok (.iconst 2, 1) := by decide +kernel
theorem dX4_aboveHalf_19 : decode cX4_aboveHalf 19 = .ok (.aload_n 0, 1) := by decide +kernel
theorem dX4_aboveHalf_20 : decode cX4_aboveHalf 20 = .ok (.getfield 47, 3) := by decide +kernel
theorem dX4_aboveHalf_23 : decode cX4_aboveHalf 23 = .ok (.iload_n 3, 1) := by decide +kernel
theorem dX4_aboveHalf_24 : decode cX4_aboveHalf 24 = .ok (.iaload, 1) := by decide +kernel
theorem dX4_aboveHalf_25 : decode cX4_aboveHalf 25 = .ok (.imul, 1) := by decide +kernel
theorem dX4_aboveHalf_26 : decode cX4_aboveHalf 26 = .ok (.iload_n 2, 1) := by decide +kernel
theorem dX4_aboveHalf_27 : decode cX4_aboveHalf 27 = .ok (.if_icmp .le 5, 3) := by decide +kernel
theorem dX4_aboveHalf_30 : decode cX4_aboveHalf 30 = .ok (.iload_n 3, 1) := by decide +kernel
theorem dX4_aboveHalf_31 : decode cX4_aboveHalf 31 = .ok (.ireturn, 1) := by decide +kernel
theorem dX4_aboveHalf_32 : decode cX4_aboveHalf 32 = .ok (.iinc 3 1, 3) := by decide +kernel
theorem dX4_aboveHalf_35 : decode cX4_aboveHalf 35 = .ok (.goto (-33), 3) := by decide +kernel
theorem dX4_aboveHalf_38 : decode cX4_aboveHalf 38 = .ok (.iconst (-1), 1) := by decide +kernel
theorem dX4_aboveHalf_39 : decode cX4_aboveHalf 39 = .ok (.ireturn, 1) := by decide +kernel
set_option maxRecDepth 20000 in
theorem ggX4_weakestOf_X4_has : GoodIn wsX4_weakestOf wsX4_has := goodIn_r _ [6] (by decide +kernel) (by decide +kernel)
set_option maxRecDepth 20000 in
theorem gX4_weakestOf_X4_has : GoodIn wsX4_weakestOf (va_wsS RX4 223 yX4_has wsX4_has) := goodIn_app (goodIn_of _ (by decide +kernel)) ggX4_weakestOf_X4_has
set_option maxRecDepth 20000 in
theorem ggX4_weakestOf_X4_scoreOf : GoodIn wsX4_weakestOf wsX4_scoreOf := goodIn_r _ [10, 11, 12, 13, 14, 15, 16, 5, 17, 18, 19, 20, 21, 22, 23, 24, 25, 26, 27, 28, 29, 30, 31, 32, 33, 34, 35, 36, 37, 38, 39, 40, 41, 42, 43, 44, 45, 46, 47, 48, 49, 50, 51, 52, 53, 54, 55, 56, 57, 58, 59, 60, 61, 62, 63, 64, 65, 66, 67, 68, 69, 70, 71, 72, 73, 74, 75, 76, 77, 78, 79, 80, 81] (by decide +kernel) (by decide +kernel)
set_option maxRecDepth 20000 in
theorem gX4_weakestOf_X4_scoreOf : GoodIn wsX4_weakestOf (wsV RX4 316 RX4 yX4_scoreOf wsX4_scoreOf) := goodIn_app (goodIn_of _ (by decide +kernel)) ggX4_weakestOf_X4_scoreOf
theorem dX4_weakestOf_0 : decode cX4_weakestOf 0 = .ok (.iconst (-1), 1) := by decide +kernel
theorem dX4_weakestOf_1 : decode cX4_weakestOf 1 = .ok (.istore_n 2, 1) := by decide +kernel
theorem dX4_weakestOf_2 : decode cX4_weakestOf 2 = .ok (.iconst 0, 1) := by decide +kernel
theorem dX4_weakestOf_3 : decode cX4_weakestOf 3 = .ok (.istore_n 3, 1) := by decide +kernel
theorem dX4_weakestOf_4 : decode cX4_weakestOf 4 = .ok (.iload_n 3, 1) := by decide +kernel
theorem dX4_weakestOf_5 : decode cX4_weakestOf 5 = .ok (.aload_n 0, 1) := by decide +kernel
theorem dX4_weakestOf_6 : decode cX4_weakestOf 6 = .ok (.getfield 85, 3) := by decide +kernel
theorem dX4_weakestOf_9 : decode cX4_weakestOf 9 = .ok (.if_icmp .ge 67, 3) := by decide +kernel
theorem dX4_weakestOf_12 : decode cX4_weakestOf 12 = .ok (.iload_n 1, 1) := by decide +kernel
theorem dX4_weakestOf_13 : decode cX4_weakestOf 13 = .ok (.iload_n 3, 1) := by decide +kernel
theorem dX4_weakestOf_14 : decode cX4_weakestOf 14 = .ok (.invokestatic 223, 3) := by decide +kernel
theorem dX4_weakestOf_17 : decode cX4_weakestOf 17 = .ok (.ifCond .eq 53, 3) := by decide +kernel
theorem dX4_weakestOf_20 : decode cX4_weakestOf 20 = .ok (.iload_n 2, 1) := by decide +kernel
theorem dX4_weakestOf_21 : decode cX4_weakestOf 21 = .ok (.iconst (-1), 1) := by decide +kernel
theorem dX4_weakestOf_22 : decode cX4_weakestOf 22 = .ok (.if_icmp .eq 46, 3) := by decide +kernel
theorem dX4_weakestOf_25 : decode cX4_weakestOf 25 = .ok (.aload_n 0, 1) := by decide +kernel
theorem dX4_weakestOf_26 : decode cX4_weakestOf 26 = .ok (.getfield 47, 3) := by decide +kernel
theorem dX4_weakestOf_29 : decode cX4_weakestOf 29 = .ok (.iload_n 3, 1) := by decide +kernel
theorem dX4_weakestOf_30 : decode cX4_weakestOf 30 = .ok (.iaload, 1) := by decide +kernel
theorem dX4_weakestOf_31 : decode cX4_weakestOf 31 = .ok (.aload_n 0, 1) := by decide +kernel
theorem dX4_weakestOf_32 : decode cX4_weakestOf 32 = .ok (.getfield 47, 3) := by decide +kernel
theorem dX4_weakestOf_35 : decode cX4_weakestOf 35 = .ok (.iload_n 2, 1) := by decide +kernel
theorem dX4_weakestOf_36 : decode cX4_weakestOf 36 = .ok (.iaload, 1) := by decide +kernel
theorem dX4_weakestOf_37 : decode cX4_weakestOf 37 = .ok (.if_icmp .lt 31, 3) := by decide +kernel
theorem dX4_weakestOf_40 : decode cX4_weakestOf 40 = .ok (.aload_n 0, 1) := by decide +kernel
theorem dX4_weakestOf_41 : decode cX4_weakestOf 41 = .ok (.getfield 47, 3) := by decide +kernel
theorem dX4_weakestOf_44 : decode cX4_weakestOf 44 = .ok (.iload_n 3, 1) := by decide +kernel
theorem dX4_weakestOf_45 : decode cX4_weakestOf 45 = .ok (.iaload, 1) := by decide +kernel
theorem dX4_weakestOf_46 : decode cX4_weakestOf 46 = .ok (.aload_n 0, 1) := by decide +kernel
theorem dX4_weakestOf_47 : decode cX4_weakestOf 47 = .ok (.getfield 47, 3) := by decide +kernel
theorem dX4_weakestOf_50 : decode cX4_weakestOf 50 = .ok (.iload_n 2, 1) := by decide +kernel
theorem dX4_weakestOf_51 : decode cX4_weakestOf 51 = .ok (.iaload, 1) := by decide +kernel
theorem dX4_weakestOf_52 : decode cX4_weakestOf 52 = .ok (.if_icmp .ne 18, 3) := by decide +kernel
theorem dX4_weakestOf_55 : decode cX4_weakestOf 55 = .ok (.aload_n 0, 1) := by decide +kernel
theorem dX4_weakestOf_56 : decode cX4_weakestOf 56 = .ok (.iload_n 3, 1) := by decide +kernel
theorem dX4_weakestOf_57 : decode cX4_weakestOf 57 = .ok (.invokevirtual 316, 3) := by decide +kernel
theorem dX4_weakestOf_60 : decode cX4_weakestOf 60 = .ok (.aload_n 0, 1) := by decide +kernel
theorem dX4_weakestOf_61 : decode cX4_weakestOf 61 = .ok (.iload_n 2, 1) := by decide +kernel
theorem dX4_weakestOf_62 : decode cX4_weakestOf 62 = .ok (.invokevirtual 316, 3) := by decide +kernel
theorem dX4_weakestOf_65 : decode cX4_weakestOf 65 = .ok (.if_icmp .gt 5, 3) := by decide +kernel
theorem dX4_weakestOf_68 : decode cX4_weakestOf 68 = .ok (.iload_n 3, 1) := by decide +kernel
theorem dX4_weakestOf_69 : decode cX4_weakestOf 69 = .ok (.istore_n 2, 1) := by decide +kernel
theorem dX4_weakestOf_70 : decode cX4_weakestOf 70 = .ok (.iinc 3 1, 3) := by decide +kernel
theorem dX4_weakestOf_73 : decode cX4_weakestOf 73 = .ok (.goto (-69), 3) := by decide +kernel
theorem dX4_weakestOf_76 : decode cX4_weakestOf 76 = .ok (.iload_n 2, 1) := by decide +kernel
theorem dX4_weakestOf_77 : decode cX4_weakestOf 77 = .ok (.ireturn, 1) := by decide +kernel
set_option maxRecDepth 20000 in
theorem ggX4_isAheadOfRest_X4_has : GoodIn wsX4_isAheadOfRest wsX4_has := goodIn_r _ [6] (by decide +kernel) (by decide +kernel)
set_option maxRecDepth 20000 in
theorem gX4_isAheadOfRest_X4_has : GoodIn wsX4_isAheadOfRest (va_wsS RX4 223 yX4_has wsX4_has) := goodIn_app (goodIn_of _ (by decide +kernel)) ggX4_isAheadOfRest_X4_has
set_option maxRecDepth 20000 in
theorem ggX4_isAheadOfRest_X4_leadOver : GoodIn wsX4_isAheadOfRest wsX4_leadOver := goodIn_r _ [10, 11, 12, 13, 14, 5, 15, 16, 17, 18, 19, 20, 21, 22, 23, 24, 25, 1, 26, 27, 28, 29, 30, 31, 32, 33, 34, 35, 36, 37, 4, 6, 38, 39, 40, 41, 42, 43, 44, 45, 46, 47, 48, 49, 50, 51, 52, 53, 54, 55, 56, 57, 58, 59, 60, 61, 62, 63, 64, 65, 66, 67, 68, 69, 70, 71, 72, 73, 74, 75, 76, 77, 78, 79, 80, 81, 82, 83] (by decide +kernel) (by decide +kernel)
set_option maxRecDepth 20000 in
theorem gX4_isAheadOfRest_X4_leadOver : GoodIn wsX4_isAheadOfRest (wsV RX4 492 RX4 yX4_leadOver wsX4_leadOver) := goodIn_app (goodIn_of _ (by decide +kernel)) ggX4_isAheadOfRest_X4_leadOver
theorem dX4_isAheadOfRest_0 : decode cX4_isAheadOfRest 0 = .ok (.iconst 0, 1) := by decide +kernel
theorem dX4_isAheadOfRest_1 : decode cX4_isAheadOfRest 1 = .ok (.istore_n 2, 1) := by decide +kernel
theorem dX4_isAheadOfRest_2 : decode cX4_isAheadOfRest 2 = .ok (.iload_n 2, 1) := by decide +kernel
theorem dX4_isAheadOfRest_3 : decode cX4_isAheadOfRest 3 = .ok (.aload_n 0, 1) := by decide +kernel
theorem dX4_isAheadOfRest_4 : decode cX4_isAheadOfRest 4 = .ok (.getfield 85, 3) := by decide +kernel
theorem dX4_isAheadOfRest_7 : decode cX4_isAheadOfRest 7 = .ok (.if_icmp .ge 36, 3) := by decide +kernel
theorem dX4_isAheadOfRest_10 : decode cX4_isAheadOfRest 10 = .ok (.iload_n 2, 1) := by decide +kernel
theorem dX4_isAheadOfRest_11 : decode cX4_isAheadOfRest 11 = .ok (.iload_n 1, 1) := by decide +kernel
theorem dX4_isAheadOfRest_12 : decode cX4_isAheadOfRest 12 = .ok (.if_icmp .eq 25, 3) := by decide +kernel
theorem dX4_isAheadOfRest_15 : decode cX4_isAheadOfRest 15 = .ok (.aload_n 0, 1) := by decide +kernel
theorem dX4_isAheadOfRest_16 : decode cX4_isAheadOfRest 16 = .ok (.getfield 246, 3) := by decide +kernel
theorem dX4_isAheadOfRest_19 : decode cX4_isAheadOfRest 19 = .ok (.iload_n 2, 1) := by decide +kernel
theorem dX4_isAheadOfRest_20 : decode cX4_isAheadOfRest 20 = .ok (.invokestatic 223, 3) := by decide +kernel
theorem dX4_isAheadOfRest_23 : decode cX4_isAheadOfRest 23 = .ok (.ifCond .eq 14, 3) := by decide +kernel
theorem dX4_isAheadOfRest_26 : decode cX4_isAheadOfRest 26 = .ok (.aload_n 0, 1) := by decide +kernel
theorem dX4_isAheadOfRest_27 : decode cX4_isAheadOfRest 27 = .ok (.iload_n 1, 1) := by decide +kernel
theorem dX4_isAheadOfRest_28 : decode cX4_isAheadOfRest 28 = .ok (.iload_n 2, 1) := by decide +kernel
theorem dX4_isAheadOfRest_29 : decode cX4_isAheadOfRest 29 = .ok (.invokevirtual 492, 3) := by decide +kernel
theorem dX4_isAheadOfRest_32 : decode cX4_isAheadOfRest 32 = .ok (.ifCond .gt 5, 3) := by decide +kernel
theorem dX4_isAheadOfRest_35 : decode cX4_isAheadOfRest 35 = .ok (.iconst 0, 1) := by decide +kernel
theorem dX4_isAheadOfRest_36 : decode cX4_isAheadOfRest 36 = .ok (.ireturn, 1) := by decide +kernel
theorem dX4_isAheadOfRest_37 : decode cX4_isAheadOfRest 37 = .ok (.iinc 2 1, 3) := by decide +kernel
theorem dX4_isAheadOfRest_40 : decode cX4_isAheadOfRest 40 = .ok (.goto (-38), 3) := by decide +kernel
theorem dX4_isAheadOfRest_43 : decode cX4_isAheadOfRest 43 = .ok (.iconst 1, 1) := by decide +kernel
theorem dX4_isAheadOfRest_44 : decode cX4_isAheadOfRest 44 = .ok (.ireturn, 1) := by decide +kernel
set_option maxRecDepth 20000 in
theorem ggX4_leadOver_X4_bit : GoodIn wsX4_leadOver wsX4_bit := goodIn_r _ [6] (by decide +kernel) (by decide +kernel)
set_option maxRecDepth 20000 in
theorem gX4_leadOver_X4_bit : GoodIn wsX4_leadOver (va_wsS RX4 120 yX4_bit wsX4_bit) := goodIn_app (goodIn_of _ (by decide +kernel)) ggX4_leadOver_X4_bit
set_option maxRecDepth 20000 in
theorem ggX4_leadOver_X2_hasOrder : GoodIn wsX4_leadOver wsX2_hasOrder := goodIn_r _ [11, 12, 51, 52, 53, 54, 55, 56, 57, 58, 59, 60, 61, 62, 63, 64, 65, 66] (by decide +kernel) (by decide +kernel)
set_option maxRecDepth 20000 in
theorem gX4_leadOver_X2_hasOrder : GoodIn wsX4_leadOver (wsV RX4 342 RX2 yX2_hasOrder wsX2_hasOrder) := goodIn_app (goodIn_of _ (by decide +kernel)) ggX4_leadOver_X2_hasOrder
set_option maxRecDepth 20000 in
theorem ggX4_leadOver_X4_openTo : GoodIn wsX4_leadOver wsX4_openTo := goodIn_r _ [16, 17, 18, 19, 20, 21, 22, 10, 23, 24, 3, 4, 5, 6, 32, 33, 34, 35, 36, 37, 38, 39, 40, 41, 42, 43, 44, 45, 46, 47, 48, 49, 50, 67, 68, 69, 70, 71, 72, 73, 74, 75, 76, 77, 51, 52, 53, 54, 55, 56, 57, 58, 59, 60, 61, 62, 63, 64, 65, 66] (by decide +kernel) (by decide +kernel)
set_option maxRecDepth 20000 in
theorem gX4_leadOver_X4_openTo : GoodIn wsX4_leadOver (wsV RX4 485 RX4 yX4_openTo wsX4_openTo) := goodIn_app (goodIn_of _ (by decide +kernel)) ggX4_leadOver_X4_openTo
set_option maxRecDepth 20000 in
theorem ggX4_leadOver_X2_firstIn : GoodIn wsX4_leadOver wsX2_firstIn := goodIn_r _ [28, 12, 29, 30, 5, 31, 51, 52, 53, 54, 55, 56, 57, 58, 59, 60, 61, 62, 63, 64, 65, 66] (by decide +kernel) (by decide +kernel)
set_option maxRecDepth 20000 in
theorem gX4_leadOver_X2_firstIn : GoodIn wsX4_leadOver (wsV RX4 489 RX2 yX2_firstIn wsX2_firstIn) := goodIn_app (goodIn_of _ (by decide +kernel)) ggX4_leadOver_X2_firstIn
theorem dX4_leadOver_0 : decode cX4_leadOver 0 = .ok (.iload_n 1, 1) := by decide +kernel
theorem dX4_leadOver_1 : decode cX4_leadOver 1 = .ok (.invokestatic 120, 3) := by decide +kernel
theorem dX4_leadOver_4 : decode cX4_leadOver 4 = .ok (.iload_n 2, 1) := by decide +kernel
theorem dX4_leadOver_5 : decode cX4_leadOver 5 = .ok (.invokestatic 120, 3) := by decide +kernel
theorem dX4_leadOver_8 : decode cX4_leadOver 8 = .ok (.ior, 1) := by decide +kernel
theorem dX4_leadOver_9 : decode cX4_leadOver 9 = .ok (.istore_n 3, 1) := by decide +kernel
theorem dX4_leadOver_10 : decode cX4_leadOver 10 = .ok (.iconst 0, 1) := by decide +kernel
theorem dX4_leadOver_11 : decode cX4_leadOver 11 = .ok (.istore 4, 2) := by decide +kernel
theorem dX4_leadOver_13 : decode cX4_leadOver 13 = .ok (.iconst 0, 1) := by decide +kernel
theorem dX4_leadOver_14 : decode cX4_leadOver 14 = .ok (.istore 5, 2) := by decide +kernel
theorem dX4_leadOver_16 : decode cX4_leadOver 16 = .ok (.iload 5, 2) := by decide +kernel
theorem dX4_leadOver_18 : decode cX4_leadOver 18 = .ok (.aload_n 0, 1) := by decide +kernel
theorem dX4_leadOver_19 : decode cX4_leadOver 19 = .ok (.getfield 102, 3) := by decide +kernel
theorem dX4_leadOver_22 : decode cX4_leadOver 22 = .ok (.if_icmp .ge 64, 3) := by decide +kernel
theorem dX4_leadOver_25 : decode cX4_leadOver 25 = .ok (.aload_n 0, 1) := by decide +kernel
theorem dX4_leadOver_26 : decode cX4_leadOver 26 = .ok (.getfield 23, 3) := by decide +kernel
theorem dX4_leadOver_29 : decode cX4_leadOver 29 = .ok (.iload 5, 2) := by decide +kernel
theorem dX4_leadOver_31 : decode cX4_leadOver 31 = .ok (.aaload, 1) := by decide +kernel
theorem dX4_leadOver_32 : decode cX4_leadOver 32 = .ok (.invokevirtual 342, 3) := by decide +kernel
theorem dX4_leadOver_35 : decode cX4_leadOver 35 = .ok (.ifCond .eq 45, 3) := by decide +kernel
theorem dX4_leadOver_38 : decode cX4_leadOver 38 = .ok (.aload_n 0, 1) := by decide +kernel
theorem dX4_leadOver_39 : decode cX4_leadOver 39 = .ok (.aload_n 0, 1) := by decide +kernel
theorem dX4_leadOver_40 : decode cX4_leadOver 40 = .ok (.getfield 23, 3) := by decide +kernel
theorem dX4_leadOver_43 : decode cX4_leadOver 43 = .ok (.iload 5, 2) := by decide +kernel
theorem dX4_leadOver_45 : decode cX4_leadOver 45 = .ok (.aaload, 1) := by decide +kernel
theorem dX4_leadOver_46 : decode cX4_leadOver 46 = .ok (.invokevirtual 485, 3) := by decide +kernel
theorem dX4_leadOver_49 : decode cX4_leadOver 49 = .ok (.iload_n 3, 1) := by decide +kernel
theorem dX4_leadOver_50 : decode cX4_leadOver 50 = .ok (.iand, 1) := by decide +kernel
theorem dX4_leadOver_51 : decode cX4_leadOver 51 = .ok (.iload_n 3, 1) := by decide +kernel
theorem dX4_leadOver_52 : decode cX4_leadOver 52 = .ok (.if_icmp .ne 28, 3) := by decide +kernel
theorem dX4_leadOver_55 : decode cX4_leadOver 55 = .ok (.iload 4, 2) := by decide +kernel
theorem dX4_leadOver_57 : decode cX4_leadOver 57 = .ok (.aload_n 0, 1) := by decide +kernel
theorem dX4_leadOver_58 : decode cX4_leadOver 58 = .ok (.getfield 23, 3) := by decide +kernel
theorem dX4_leadOver_61 : decode cX4_leadOver 61 = .ok (.iload 5, 2) := by decide +kernel
theorem dX4_leadOver_63 : decode cX4_leadOver 63 = .ok (.aaload, 1) := by decide +kernel
theorem dX4_leadOver_64 : decode cX4_leadOver 64 = .ok (.iload_n 3, 1) := by decide +kernel
theorem dX4_leadOver_65 : decode cX4_leadOver 65 = .ok (.invokevirtual 489, 3) := by decide +kernel
theorem dX4_leadOver_68 : decode cX4_leadOver 68 = .ok (.iload_n 1, 1) := by decide +kernel
theorem dX4_leadOver_69 : decode cX4_leadOver 69 = .ok (.if_icmp .ne 7, 3) := by decide +kernel
theorem dX4_leadOver_72 : decode cX4_leadOver 72 = .ok (.iconst 1, 1) := by decide +kernel
theorem dX4_leadOver_73 : decode cX4_leadOver 73 = .ok (.goto 4, 3) := by decide +kernel
theorem dX4_leadOver_76 : decode cX4_leadOver 76 = .ok (.iconst (-1), 1) := by decide +kernel
theorem dX4_leadOver_77 : decode cX4_leadOver 77 = .ok (.iadd, 1) := by decide +kernel
theorem dX4_leadOver_78 : decode cX4_leadOver 78 = .ok (.istore 4, 2) := by decide +kernel
theorem dX4_leadOver_80 : decode cX4_leadOver 80 = .ok (.iinc 5 1, 3) := by decide +kernel
theorem dX4_leadOver_83 : decode cX4_leadOver 83 = .ok (.goto (-67), 3) := by decide +kernel
theorem dX4_leadOver_86 : decode cX4_leadOver 86 = .ok (.iload 4, 2) := by decide +kernel
theorem dX4_leadOver_88 : decode cX4_leadOver 88 = .ok (.ireturn, 1) := by decide +kernel
set_option maxRecDepth 20000 in
theorem ggX5_init_Jx4a65c_init_da8c8 : GoodIn wsX5_init wsJx4a65c_init_da8c8 := goodIn_r _ [21, 22, 23, 24, 25, 26, 27, 28, 29, 30, 31, 32, 33, 2, 3, 80, 81, 82] (by decide +kernel) (by decide +kernel)
set_option maxRecDepth 20000 in
theorem gX5_init_Jx4a65c_init_da8c8 : GoodIn wsX5_init (wsJx4a65c_init_da8c8) := ggX5_init_Jx4a65c_init_da8c8
set_option maxRecDepth 20000 in
theorem ggX5_init_X5_clear : GoodIn wsX5_init wsX5_clear := goodIn_r _ [38, 15, 16, 13, 39, 9, 40, 7, 41, 42, 43, 17, 44, 45, 46, 6, 47, 48, 49, 50, 51, 52, 53, 54, 55, 2, 3, 56, 57, 58, 59, 60, 61, 62, 63, 64, 65, 66, 67, 68, 69, 70, 71, 72, 73, 74, 75, 76, 77, 78, 23, 79, 83, 84, 85, 86, 87, 88, 89, 90, 91, 92, 93, 94, 95, 96, 97, 98, 99, 100, 101, 102, 103, 104, 105, 106, 80, 81, 82] (by decide +kernel) (by decide +kernel)
set_option maxRecDepth 20000 in
theorem gX5_init_X5_clear : GoodIn wsX5_init (wsV RX5 47 RX5 yX5_clear wsX5_clear) := goodIn_app (goodIn_of _ (by decide +kernel)) ggX5_init_X5_clear
theorem dX5_init_0 : decode cX5_init 0 = .ok (.aload_n 0, 1) := by decide +kernel
theorem dX5_init_1 : decode cX5_init 1 = .ok (.invokespecial 1, 3) := by decide +kernel
theorem dX5_init_4 : decode cX5_init 4 = .ok (.aload_n 0, 1) := by decide +kernel
theorem dX5_init_5 : decode cX5_init 5 = .ok (.new 7, 3) := by decide +kernel
theorem dX5_init_8 : decode cX5_init 8 = .ok (.dup, 1) := by decide +kernel
theorem dX5_init_9 : decode cX5_init 9 = .ok (.invokespecial 9, 3) := by decide +kernel
theorem dX5_init_12 : decode cX5_init 12 = .ok (.putfield 10, 3) := by decide +kernel
theorem dX5_init_15 : decode cX5_init 15 = .ok (.aload_n 0, 1) := by decide +kernel
theorem dX5_init_16 : decode cX5_init 16 = .ok (.new 7, 3) := by decide +kernel
theorem dX5_init_19 : decode cX5_init 19 = .ok (.dup, 1) := by decide +kernel
theorem dX5_init_20 : decode cX5_init 20 = .ok (.invokespecial 9, 3) := by decide +kernel
theorem dX5_init_23 : decode cX5_init 23 = .ok (.putfield 16, 3) := by decide +kernel
theorem dX5_init_26 : decode cX5_init 26 = .ok (.aload_n 0, 1) := by decide +kernel
theorem dX5_init_27 : decode cX5_init 27 = .ok (.new 7, 3) := by decide +kernel
theorem dX5_init_30 : decode cX5_init 30 = .ok (.dup, 1) := by decide +kernel
theorem dX5_init_31 : decode cX5_init 31 = .ok (.invokespecial 9, 3) := by decide +kernel
theorem dX5_init_34 : decode cX5_init 34 = .ok (.putfield 19, 3) := by decide +kernel
theorem dX5_init_37 : decode cX5_init 37 = .ok (.aload_n 0, 1) := by decide +kernel
theorem dX5_init_38 : decode cX5_init 38 = .ok (.iconst 4, 1) := by decide +kernel
theorem dX5_init_39 : decode cX5_init 39 = .ok (.newarray .int, 2) := by decide +kernel
theorem dX5_init_41 : decode cX5_init 41 = .ok (.dup, 1) := by decide +kernel
theorem dX5_init_42 : decode cX5_init 42 = .ok (.iconst 0, 1) := by decide +kernel
theorem dX5_init_43 : decode cX5_init 43 = .ok (.bipush 7, 2) := by decide +kernel
theorem dX5_init_45 : decode cX5_init 45 = .ok (.iastore, 1) := by decide +kernel
theorem dX5_init_46 : decode cX5_init 46 = .ok (.dup, 1) := by decide +kernel
theorem dX5_init_47 : decode cX5_init 47 = .ok (.iconst 1, 1) := by decide +kernel
theorem dX5_init_48 : decode cX5_init 48 = .ok (.bipush 100, 2) := by decide +kernel
theorem dX5_init_50 : decode cX5_init 50 = .ok (.iastore, 1) := by decide +kernel
theorem dX5_init_51 : decode cX5_init 51 = .ok (.dup, 1) := by decide +kernel
theorem dX5_init_52 : decode cX5_init 52 = .ok (.iconst 2, 1) := by decide +kernel
theorem dX5_init_53 : decode cX5_init 53 = .ok (.sipush 800, 3) := by decide +kernel
theorem dX5_init_56 : decode cX5_init 56 = .ok (.iastore, 1) := by decide +kernel
theorem dX5_init_57 : decode cX5_init 57 = .ok (.dup, 1) := by decide +kernel
theorem dX5_init_58 : decode cX5_init 58 = .ok (.iconst 3, 1) := by decide +kernel
theorem dX5_init_59 : decode cX5_init 59 = .ok (.bipush 10, 2) := by decide +kernel
theorem dX5_init_61 : decode cX5_init 61 = .ok (.iastore, 1) := by decide +kernel
theorem dX5_init_62 : decode cX5_init 62 = .ok (.putfield 22, 3) := by decide +kernel
theorem dX5_init_65 : decode cX5_init 65 = .ok (.aload_n 0, 1) := by decide +kernel
theorem dX5_init_66 : decode cX5_init 66 = .ok (.iconst 4, 1) := by decide +kernel
theorem dX5_init_67 : decode cX5_init 67 = .ok (.newarray .int, 2) := by decide +kernel
theorem dX5_init_69 : decode cX5_init 69 = .ok (.dup, 1) := by decide +kernel
theorem dX5_init_70 : decode cX5_init 70 = .ok (.iconst 0, 1) := by decide +kernel
theorem dX5_init_71 : decode cX5_init 71 = .ok (.bipush 7, 2) := by decide +kernel
theorem dX5_init_73 : decode cX5_init 73 = .ok (.iastore, 1) := by decide +kernel
theorem dX5_init_74 : decode cX5_init 74 = .ok (.dup, 1) := by decide +kernel
theorem dX5_init_75 : decode cX5_init 75 = .ok (.iconst 1, 1) := by decide +kernel
theorem dX5_init_76 : decode cX5_init 76 = .ok (.bipush 100, 2) := by decide +kernel
theorem dX5_init_78 : decode cX5_init 78 = .ok (.iastore, 1) := by decide +kernel
theorem dX5_init_79 : decode cX5_init 79 = .ok (.dup, 1) := by decide +kernel
theorem dX5_init_80 : decode cX5_init 80 = .ok (.iconst 2, 1) := by decide +kernel
theorem dX5_init_81 : decode cX5_init 81 = .ok (.sipush 800, 3) := by decide +kernel
theorem dX5_init_84 : decode cX5_init 84 = .ok (.iastore, 1) := by decide +kernel
theorem dX5_init_85 : decode cX5_init 85 = .ok (.dup, 1) := by decide +kernel
theorem dX5_init_86 : decode cX5_init 86 = .ok (.iconst 3, 1) := by decide +kernel
theorem dX5_init_87 : decode cX5_init 87 = .ok (.bipush 10, 2) := by decide +kernel
theorem dX5_init_89 : decode cX5_init 89 = .ok (.iastore, 1) := by decide +kernel
theorem dX5_init_90 : decode cX5_init 90 = .ok (.putfield 26, 3) := by decide +kernel
theorem dX5_init_93 : decode cX5_init 93 = .ok (.aload_n 0, 1) := by decide +kernel
theorem dX5_init_94 : decode cX5_init 94 = .ok (.new 7, 3) := by decide +kernel
theorem dX5_init_97 : decode cX5_init 97 = .ok (.dup, 1) := by decide +kernel
theorem dX5_init_98 : decode cX5_init 98 = .ok (.invokespecial 9, 3) := by decide +kernel
theorem dX5_init_101 : decode cX5_init 101 = .ok (.putfield 29, 3) := by decide +kernel
theorem dX5_init_104 : decode cX5_init 104 = .ok (.aload_n 0, 1) := by decide +kernel
theorem dX5_init_105 : decode cX5_init 105 = .ok (.iconst 5, 1) := by decide +kernel
theorem dX5_init_106 : decode cX5_init 106 = .ok (.bipush 16, 2) := by decide +kernel
theorem dX5_init_108 : decode cX5_init 108 = .ok (.multianewarray 32 2, 4) := by decide +kernel
theorem dX5_init_112 : decode cX5_init 112 = .ok (.putfield 34, 3) := by decide +kernel
theorem dX5_init_115 : decode cX5_init 115 = .ok (.aload_n 0, 1) := by decide +kernel
theorem dX5_init_116 : decode cX5_init 116 = .ok (.iconst 5, 1) := by decide +kernel
theorem dX5_init_117 : decode cX5_init 117 = .ok (.bipush 16, 2) := by decide +kernel
theorem dX5_init_119 : decode cX5_init 119 = .ok (.multianewarray 32 2, 4) := by decide +kernel
theorem dX5_init_123 : decode cX5_init 123 = .ok (.putfield 37, 3) := by decide +kernel
theorem dX5_init_126 : decode cX5_init 126 = .ok (.aload_n 0, 1) := by decide +kernel
theorem dX5_init_127 : decode cX5_init 127 = .ok (.iconst (-1), 1) := by decide +kernel
theorem dX5_init_128 : decode cX5_init 128 = .ok (.putfield 40, 3) := by decide +kernel
theorem dX5_init_131 : decode cX5_init 131 = .ok (.aload_n 0, 1) := by decide +kernel
theorem dX5_init_132 : decode cX5_init 132 = .ok (.iconst (-1), 1) := by decide +kernel
theorem dX5_init_133 : decode cX5_init 133 = .ok (.putfield 44, 3) := by decide +kernel
theorem dX5_init_136 : decode cX5_init 136 = .ok (.aload_n 0, 1) := by decide +kernel
theorem dX5_init_137 : decode cX5_init 137 = .ok (.invokevirtual 47, 3) := by decide +kernel
theorem dX5_init_140 : decode cX5_init 140 = .ok (.return_, 1) := by decide +kernel
theorem dX5_thrown_0 : decode cX5_thrown 0 = .ok (.aload_n 0, 1) := by decide +kernel
theorem dX5_thrown_1 : decode cX5_thrown 1 = .ok (.getfield 50, 3) := by decide +kernel
theorem dX5_thrown_4 : decode cX5_thrown 4 = .ok (.ireturn, 1) := by decide +kernel
theorem dX5_refuse_0 : decode cX5_refuse 0 = .ok (.aload_n 0, 1) := by decide +kernel
theorem dX5_refuse_1 : decode cX5_refuse 1 = .ok (.iload_n 1, 1) := by decide +kernel
theorem dX5_refuse_2 : decode cX5_refuse 2 = .ok (.putfield 50, 3) := by decide +kernel
theorem dX5_refuse_5 : decode cX5_refuse 5 = .ok (.iconst 0, 1) := by decide +kernel
theorem dX5_refuse_6 : decode cX5_refuse 6 = .ok (.ireturn, 1) := by decide +kernel
theorem dX5_is_0 : decode cX5_is 0 = .ok (.iload_n 0, 1) := by decide +kernel
theorem dX5_is_1 : decode cX5_is 1 = .ok (.iload_n 1, 1) := by decide +kernel
theorem dX5_is_2 : decode cX5_is 2 = .ok (.if_icmp .lt 12, 3) := by decide +kernel
theorem dX5_is_5 : decode cX5_is 5 = .ok (.iload_n 0, 1) := by decide +kernel
theorem dX5_is_6 : decode cX5_is 6 = .ok (.iload_n 2, 1) := by decide +kernel
theorem dX5_is_7 : decode cX5_is 7 = .ok (.if_icmp .gt 7, 3) := by decide +kernel
theorem dX5_is_10 : decode cX5_is 10 = .ok (.iconst 1, 1) := by decide +kernel
theorem dX5_is_11 : decode cX5_is 11 = .ok (.goto 4, 3) := by decide +kernel
theorem dX5_is_14 : decode cX5_is 14 = .ok (.iconst 0, 1) := by decide +kernel
theorem dX5_is_15 : decode cX5_is 15 = .ok (.ireturn, 1) := by decide +kernel
set_option maxRecDepth 20000 in
theorem ggX5_isHouse_Jx4a65c_size_8abf5 : GoodIn wsX5_isHouse wsJx4a65c_size_8abf5 := goodIn_r _ [6, 7, 32, 33, 34] (by decide +kernel) (by decide +kernel)
set_option maxRecDepth 20000 in
theorem gX5_isHouse_Jx4a65c_size_8abf5 : GoodIn wsX5_isHouse (wsV RX5 53 RJx4a65c yJx4a65c_size_8abf5 wsJx4a65c_size_8abf5) := goodIn_app (goodIn_of _ (by decide +kernel)) ggX5_isHouse_Jx4a65c_size_8abf5
set_option maxRecDepth 20000 in
theorem ggX5_isHouse_X5_is : GoodIn wsX5_isHouse wsX5_is := goodIn_r _ [11] (by decide +kernel) (by decide +kernel)
set_option maxRecDepth 20000 in
theorem gX5_isHouse_X5_is : GoodIn wsX5_isHouse (va_wsS RX5 57 yX5_is wsX5_is) := goodIn_app (goodIn_of _ (by decide +kernel)) ggX5_isHouse_X5_is
theorem dX5_isHouse_0 : decode cX5_isHouse 0 = .ok (.iload_n 1, 1) := by decide +kernel
theorem dX5_isHouse_1 : decode cX5_isHouse 1 = .ok (.iconst 0, 1) := by decide +kernel
theorem dX5_isHouse_2 : decode cX5_isHouse 2 = .ok (.aload_n 0, 1) := by decide +kernel
theorem dX5_isHouse_3 : decode cX5_isHouse 3 = .ok (.getfield 10, 3) := by decide +kernel
theorem dX5_isHouse_6 : decode cX5_isHouse 6 = .ok (.invokevirtual 53, 3) := by decide +kernel
theorem dX5_isHouse_9 : decode cX5_isHouse 9 = .ok (.iconst 1, 1) := by decide +kernel
theorem dX5_isHouse_10 : decode cX5_isHouse 10 = .ok (.isub, 1) := by decide +kernel
theorem dX5_isHouse_11 : decode cX5_isHouse 11 = .ok (.invokestatic 57, 3) := by decide +kernel
theorem dX5_isHouse_14 : decode cX5_isHouse 14 = .ok (.ireturn, 1) := by decide +kernel
set_option maxRecDepth 20000 in
theorem ggX5_isBook_Jx4a65c_size_8abf5 : GoodIn wsX5_isBook wsJx4a65c_size_8abf5 := goodIn_r _ [6, 7, 32, 33, 34] (by decide +kernel) (by decide +kernel)
set_option maxRecDepth 20000 in
theorem gX5_isBook_Jx4a65c_size_8abf5 : GoodIn wsX5_isBook (wsV RX5 53 RJx4a65c yJx4a65c_size_8abf5 wsJx4a65c_size_8abf5) := goodIn_app (goodIn_of _ (by decide +kernel)) ggX5_isBook_Jx4a65c_size_8abf5
set_option maxRecDepth 20000 in
theorem ggX5_isBook_X5_is : GoodIn wsX5_isBook wsX5_is := goodIn_r _ [11] (by decide +kernel) (by decide +kernel)
set_option maxRecDepth 20000 in
theorem gX5_isBook_X5_is : GoodIn wsX5_isBook (va_wsS RX5 57 yX5_is wsX5_is) := goodIn_app (goodIn_of _ (by decide +kernel)) ggX5_isBook_X5_is
theorem dX5_isBook_0 : decode cX5_isBook 0 = .ok (.iload_n 1, 1) := by decide +kernel
theorem dX5_isBook_1 : decode cX5_isBook 1 = .ok (.iconst 0, 1) := by decide +kernel
theorem dX5_isBook_2 : decode cX5_isBook 2 = .ok (.aload_n 0, 1) := by decide +kernel
theorem dX5_isBook_3 : decode cX5_isBook 3 = .ok (.getfield 16, 3) := by decide +kernel
theorem dX5_isBook_6 : decode cX5_isBook 6 = .ok (.invokevirtual 53, 3) := by decide +kernel
theorem dX5_isBook_9 : decode cX5_isBook 9 = .ok (.iconst 1, 1) := by decide +kernel
theorem dX5_isBook_10 : decode cX5_isBook 10 = .ok (.isub, 1) := by decide +kernel
theorem dX5_isBook_11 : decode cX5_isBook 11 = .ok (.invokestatic 57, 3) := by decide +kernel
theorem dX5_isBook_14 : decode cX5_isBook 14 = .ok (.ireturn, 1) := by decide +kernel
set_option maxRecDepth 20000 in
theorem ggX5_isJudge_Jx4a65c_size_8abf5 : GoodIn wsX5_isJudge wsJx4a65c_size_8abf5 := goodIn_r _ [6, 7, 32, 33, 34] (by decide +kernel) (by decide +kernel)
set_option maxRecDepth 20000 in
theorem gX5_isJudge_Jx4a65c_size_8abf5 : GoodIn wsX5_isJudge (wsV RX5 53 RJx4a65c yJx4a65c_size_8abf5 wsJx4a65c_size_8abf5) := goodIn_app (goodIn_of _ (by decide +kernel)) ggX5_isJudge_Jx4a65c_size_8abf5
set_option maxRecDepth 20000 in
theorem ggX5_isJudge_X5_is : GoodIn wsX5_isJudge wsX5_is := goodIn_r _ [11] (by decide +kernel) (by decide +kernel)
set_option maxRecDepth 20000 in
theorem gX5_isJudge_X5_is : GoodIn wsX5_isJudge (va_wsS RX5 57 yX5_is wsX5_is) := goodIn_app (goodIn_of _ (by decide +kernel)) ggX5_isJudge_X5_is
theorem dX5_isJudge_0 : decode cX5_isJudge 0 = .ok (.iload_n 1, 1) := by decide +kernel
theorem dX5_isJudge_1 : decode cX5_isJudge 1 = .ok (.iconst 0, 1) := by decide +kernel
theorem dX5_isJudge_2 : decode cX5_isJudge 2 = .ok (.aload_n 0, 1) := by decide +kernel
theorem dX5_isJudge_3 : decode cX5_isJudge 3 = .ok (.getfield 19, 3) := by decide +kernel
theorem dX5_isJudge_6 : decode cX5_isJudge 6 = .ok (.invokevirtual 53, 3) := by decide +kernel
theorem dX5_isJudge_9 : decode cX5_isJudge 9 = .ok (.iconst 1, 1) := by decide +kernel
theorem dX5_isJudge_10 : decode cX5_isJudge 10 = .ok (.isub, 1) := by decide +kernel
theorem dX5_isJudge_11 : decode cX5_isJudge 11 = .ok (.invokestatic 57, 3) := by decide +kernel
theorem dX5_isJudge_14 : decode cX5_isJudge 14 = .ok (.ireturn, 1) := by decide +kernel
set_option maxRecDepth 20000 in
theorem ggX5_clear_Jx4a65c_iterator_32c93 : GoodIn wsX5_clear wsJx4a65c_iterator_32c93 := goodIn_r _ [16, 17, 18, 19, 20, 21, 22, 23, 24, 25, 26, 27, 28, 29, 30, 72, 73, 74, 75, 76, 77, 78] (by decide +kernel) (by decide +kernel)
set_option maxRecDepth 20000 in
theorem gX5_clear_Jx4a65c_iterator_32c93 : GoodIn wsX5_clear (wsV RX5 61 RJx4a65c yJx4a65c_iterator_32c93 wsJx4a65c_iterator_32c93) := goodIn_app (goodIn_of _ (by decide +kernel)) ggX5_clear_Jx4a65c_iterator_32c93
set_option maxRecDepth 20000 in
theorem ggX5_clear_Jx35411_hasNext_aae02 : GoodIn wsX5_clear wsJx35411_hasNext_aae02 := goodIn_r _ [34, 35, 23, 72, 73, 74, 75, 76, 77, 78] (by decide +kernel) (by decide +kernel)
set_option maxRecDepth 20000 in
theorem gX5_clear_Jx35411_hasNext_aae02_f65Jx35411 : GoodIn wsX5_clear (va_wsF RX5 65 RJx35411 ⟨"java/util/Iterator", "hasNext", "()Z"⟩ yJx35411_hasNext_aae02 wsJx35411_hasNext_aae02) := goodIn_app (goodIn_of _ (by decide +kernel)) ggX5_clear_Jx35411_hasNext_aae02
set_option maxRecDepth 20000 in
theorem ggX5_clear_Jx35411_next_0502b : GoodIn wsX5_clear wsJx35411_next_0502b := goodIn_r _ [39, 35, 23, 40, 27, 41, 42, 43, 19, 44, 28, 29, 30, 72, 73, 74, 75, 76, 77, 78] (by decide +kernel) (by decide +kernel)
set_option maxRecDepth 20000 in
theorem gX5_clear_Jx35411_next_0502b_f71Jx35411 : GoodIn wsX5_clear (va_wsF RX5 71 RJx35411 ⟨"java/util/Iterator", "next", "()Ljava/lang/Object;"⟩ yJx35411_next_0502b wsJx35411_next_0502b) := goodIn_app (goodIn_of _ (by decide +kernel)) ggX5_clear_Jx35411_next_0502b
set_option maxRecDepth 20000 in
theorem ggX5_clear_Jx4a65c_clear_da8c8 : GoodIn wsX5_clear wsJx4a65c_clear_da8c8 := goodIn_r _ [48, 49, 29, 50, 51, 76, 77, 78] (by decide +kernel) (by decide +kernel)
set_option maxRecDepth 20000 in
theorem gX5_clear_Jx4a65c_clear_da8c8 : GoodIn wsX5_clear (wsV RX5 75 RJx4a65c yJx4a65c_clear_da8c8 wsJx4a65c_clear_da8c8) := goodIn_app (goodIn_of _ (by decide +kernel)) ggX5_clear_Jx4a65c_clear_da8c8
theorem dX5_clear_0 : decode cX5_clear 0 = .ok (.iconst 0, 1) := by decide +kernel
theorem dX5_clear_1 : decode cX5_clear 1 = .ok (.istore_n 1, 1) := by decide +kernel
theorem dX5_clear_2 : decode cX5_clear 2 = .ok (.iload_n 1, 1) := by decide +kernel
theorem dX5_clear_3 : decode cX5_clear 3 = .ok (.iconst 5, 1) := by decide +kernel
theorem dX5_clear_4 : decode cX5_clear 4 = .ok (.if_icmp .ge 41, 3) := by decide +kernel
theorem dX5_clear_7 : decode cX5_clear 7 = .ok (.iconst 0, 1) := by decide +kernel
theorem dX5_clear_8 : decode cX5_clear 8 = .ok (.istore_n 2, 1) := by decide +kernel
theorem dX5_clear_9 : decode cX5_clear 9 = .ok (.iload_n 2, 1) := by decide +kernel
theorem dX5_clear_10 : decode cX5_clear 10 = .ok (.bipush 16, 2) := by decide +kernel
theorem dX5_clear_12 : decode cX5_clear 12 = .ok (.if_icmp .ge 27, 3) := by decide +kernel
theorem dX5_clear_15 : decode cX5_clear 15 = .ok (.aload_n 0, 1) := by decide +kernel
theorem dX5_clear_16 : decode cX5_clear 16 = .ok (.getfield 34, 3) := by decide +kernel
theorem dX5_clear_19 : decode cX5_clear 19 = .ok (.iload_n 1, 1) := by decide +kernel
theorem dX5_clear_20 : decode cX5_clear 20 = .ok (.aaload, 1) := by decide +kernel
theorem dX5_clear_21 : decode cX5_clear 21 = .ok (.iload_n 2, 1) := by decide +kernel
theorem dX5_clear_22 : decode cX5_clear 22 = .ok (.iconst (-1), 1) := by decide +kernel
theorem dX5_clear_23 : decode cX5_clear 23 = .ok (.iastore, 1) := by decide +kernel
theorem dX5_clear_24 : decode cX5_clear 24 = .ok (.aload_n 0, 1) := by decide +kernel
theorem dX5_clear_25 : decode cX5_clear 25 = .ok (.getfield 37, 3) := by decide +kernel
theorem dX5_clear_28 : decode cX5_clear 28 = .ok (.iload_n 1, 1) := by decide +kernel
theorem dX5_clear_29 : decode cX5_clear 29 = .ok (.aaload, 1) := by decide +kernel
theorem dX5_clear_30 : decode cX5_clear 30 = .ok (.iload_n 2, 1) := by decide +kernel
theorem dX5_clear_31 : decode cX5_clear 31 = .ok (.iconst 0, 1) := by decide +kernel
theorem dX5_clear_32 : decode cX5_clear 32 = .ok (.iastore, 1) := by decide +kernel
theorem dX5_clear_33 : decode cX5_clear 33 = .ok (.iinc 2 1, 3) := by decide +kernel
theorem dX5_clear_36 : decode cX5_clear 36 = .ok (.goto (-27), 3) := by decide +kernel
theorem dX5_clear_39 : decode cX5_clear 39 = .ok (.iinc 1 1, 3) := by decide +kernel
theorem dX5_clear_42 : decode cX5_clear 42 = .ok (.goto (-40), 3) := by decide +kernel
theorem dX5_clear_45 : decode cX5_clear 45 = .ok (.aload_n 0, 1) := by decide +kernel
theorem dX5_clear_46 : decode cX5_clear 46 = .ok (.getfield 29, 3) := by decide +kernel
theorem dX5_clear_49 : decode cX5_clear 49 = .ok (.invokevirtual 61, 3) := by decide +kernel
theorem dX5_clear_52 : decode cX5_clear 52 = .ok (.astore_n 1, 1) := by decide +kernel
theorem dX5_clear_53 : decode cX5_clear 53 = .ok (.aload_n 1, 1) := by decide +kernel
theorem dX5_clear_54 : decode cX5_clear 54 = .ok (.invokeinterface 65 1, 5) := by decide +kernel
theorem dX5_clear_59 : decode cX5_clear 59 = .ok (.ifCond .eq 20, 3) := by decide +kernel
theorem dX5_clear_62 : decode cX5_clear 62 = .ok (.aload_n 1, 1) := by decide +kernel
theorem dX5_clear_63 : decode cX5_clear 63 = .ok (.invokeinterface 71 1, 5) := by decide +kernel
theorem dX5_clear_68 : decode cX5_clear 68 = .ok (.checkcast 7, 3) := by decide +kernel
theorem dX5_clear_71 : decode cX5_clear 71 = .ok (.astore_n 2, 1) := by decide +kernel
theorem dX5_clear_72 : decode cX5_clear 72 = .ok (.aload_n 2, 1) := by decide +kernel
theorem dX5_clear_73 : decode cX5_clear 73 = .ok (.invokevirtual 75, 3) := by decide +kernel
theorem dX5_clear_76 : decode cX5_clear 76 = .ok (.goto (-23), 3) := by decide +kernel
theorem dX5_clear_79 : decode cX5_clear 79 = .ok (.aload_n 0, 1) := by decide +kernel
theorem dX5_clear_80 : decode cX5_clear 80 = .ok (.getfield 19, 3) := by decide +kernel
theorem dX5_clear_83 : decode cX5_clear 83 = .ok (.invokevirtual 61, 3) := by decide +kernel
theorem dX5_clear_86 : decode cX5_clear 86 = .ok (.astore_n 1, 1) := by decide +kernel
theorem dX5_clear_87 : decode cX5_clear 87 = .ok (.aload_n 1, 1) := by decide +kernel
theorem dX5_clear_88 : decode cX5_clear 88 = .ok (.invokeinterface 65 1, 5) := by decide +kernel
theorem dX5_clear_93 : decode cX5_clear 93 = .ok (.ifCond .eq 29, 3) := by decide +kernel
theorem dX5_clear_96 : decode cX5_clear 96 = .ok (.aload_n 1, 1) := by decide +kernel
theorem dX5_clear_97 : decode cX5_clear 97 = .ok (.invokeinterface 71 1, 5) := by decide +kernel
theorem dX5_clear_102 : decode cX5_clear 102 = .ok (.checkcast 76, 3) := by decide +kernel
theorem dX5_clear_105 : decode cX5_clear 105 = .ok (.astore_n 2, 1) := by decide +kernel
theorem dX5_clear_106 : decode cX5_clear 106 = .ok (.aload_n 2, 1) := by decide +kernel
theorem dX5_clear_107 : decode cX5_clear 107 = .ok (.iconst 4, 1) := by decide +kernel
theorem dX5_clear_108 : decode cX5_clear 108 = .ok (.iconst 0, 1) := by decide +kernel
theorem dX5_clear_109 : decode cX5_clear 109 = .ok (.iastore, 1) := by decide +kernel
theorem dX5_clear_110 : decode cX5_clear 110 = .ok (.aload_n 2, 1) := by decide +kernel
theorem dX5_clear_111 : decode cX5_clear 111 = .ok (.iconst 5, 1) := by decide +kernel
theorem dX5_clear_112 : decode cX5_clear 112 = .ok (.iconst 0, 1) := by decide +kernel
theorem dX5_clear_113 : decode cX5_clear 113 = .ok (.iastore, 1) := by decide +kernel
theorem dX5_clear_114 : decode cX5_clear 114 = .ok (.aload_n 2, 1) := by decide +kernel
theorem dX5_clear_115 : decode cX5_clear 115 = .ok (.bipush 6, 2) := by decide +kernel
theorem dX5_clear_117 : decode cX5_clear 117 = .ok (.iconst 0, 1) := by decide +kernel
theorem dX5_clear_118 : decode cX5_clear 118 = .ok (.iastore, 1) := by decide +kernel
theorem dX5_clear_119 : decode cX5_clear 119 = .ok (.goto (-32), 3) := by decide +kernel
theorem dX5_clear_122 : decode cX5_clear 122 = .ok (.aload_n 0, 1) := by decide +kernel
theorem dX5_clear_123 : decode cX5_clear 123 = .ok (.getfield 10, 3) := by decide +kernel
theorem dX5_clear_126 : decode cX5_clear 126 = .ok (.invokevirtual 61, 3) := by decide +kernel
theorem dX5_clear_129 : decode cX5_clear 129 = .ok (.astore_n 1, 1) := by decide +kernel
theorem dX5_clear_130 : decode cX5_clear 130 = .ok (.aload_n 1, 1) := by decide +kernel
theorem dX5_clear_131 : decode cX5_clear 131 = .ok (.invokeinterface 65 1, 5) := by decide +kernel
theorem dX5_clear_136 : decode cX5_clear 136 = .ok (.ifCond .eq 20, 3) := by decide +kernel
theorem dX5_clear_139 : decode cX5_clear 139 = .ok (.aload_n 1, 1) := by decide +kernel
theorem dX5_clear_140 : decode cX5_clear 140 = .ok (.invokeinterface 71 1, 5) := by decide +kernel
theorem dX5_clear_145 : decode cX5_clear 145 = .ok (.checkcast 76, 3) := by decide +kernel
theorem dX5_clear_148 : decode cX5_clear 148 = .ok (.astore_n 2, 1) := by decide +kernel
theorem dX5_clear_149 : decode cX5_clear 149 = .ok (.aload_n 2, 1) := by decide +kernel
theorem dX5_clear_150 : decode cX5_clear 150 = .ok (.iconst 1, 1) := by decide +kernel
theorem dX5_clear_151 : decode cX5_clear 151 = .ok (.iconst 0, 1) := by decide +kernel
theorem dX5_clear_152 : decode cX5_clear 152 = .ok (.iastore, 1) := by decide +kernel
theorem dX5_clear_153 : decode cX5_clear 153 = .ok (.goto (-23), 3) := by decide +kernel
theorem dX5_clear_156 : decode cX5_clear 156 = .ok (.aload_n 0, 1) := by decide +kernel
theorem dX5_clear_157 : decode cX5_clear 157 = .ok (.iconst 0, 1) := by decide +kernel
theorem dX5_clear_158 : decode cX5_clear 158 = .ok (.putfield 77, 3) := by decide +kernel
theorem dX5_clear_161 : decode cX5_clear 161 = .ok (.aload_n 0, 1) := by decide +kernel
theorem dX5_clear_162 : decode cX5_clear 162 = .ok (.iconst 0, 1) := by decide +kernel
theorem dX5_clear_163 : decode cX5_clear 163 = .ok (.putfield 80, 3) := by decide +kernel
theorem dX5_clear_166 : decode cX5_clear 166 = .ok (.aload_n 0, 1) := by decide +kernel
theorem dX5_clear_167 : decode cX5_clear 167 = .ok (.iconst 0, 1) := by decide +kernel
theorem dX5_clear_168 : decode cX5_clear 168 = .ok (.putfield 83, 3) := by decide +kernel
theorem dX5_clear_171 : decode cX5_clear 171 = .ok (.aload_n 0, 1) := by decide +kernel
theorem dX5_clear_172 : decode cX5_clear 172 = .ok (.iconst (-1), 1) := by decide +kernel
theorem dX5_clear_173 : decode cX5_clear 173 = .ok (.putfield 40, 3) := by decide +kernel
theorem dX5_clear_176 : decode cX5_clear 176 = .ok (.return_, 1) := by decide +kernel
set_option maxRecDepth 20000 in
theorem ggX5_house_Jx4a65c_size_8abf5 : GoodIn wsX5_house wsJx4a65c_size_8abf5 := goodIn_r _ [8, 9, 89, 90, 91] (by decide +kernel) (by decide +kernel)
set_option maxRecDepth 20000 in
theorem gX5_house_Jx4a65c_size_8abf5 : GoodIn wsX5_house (wsV RX5 53 RJx4a65c yJx4a65c_size_8abf5 wsJx4a65c_size_8abf5) := goodIn_app (goodIn_of _ (by decide +kernel)) ggX5_house_Jx4a65c_size_8abf5
set_option maxRecDepth 20000 in
theorem ggX5_house_X5_refuse : GoodIn wsX5_house wsX5_refuse := goodIn_r _ [14, 1, 69, 70, 71, 72, 73, 74, 75, 76, 77, 78, 79, 80, 81, 82, 83, 84, 85, 86, 87, 88] (by decide +kernel) (by decide +kernel)
set_option maxRecDepth 20000 in
theorem gX5_house_X5_refuse : GoodIn wsX5_house (wsV RX5 86 RX5 yX5_refuse wsX5_refuse) := goodIn_app (goodIn_of _ (by decide +kernel)) ggX5_house_X5_refuse
set_option maxRecDepth 20000 in
theorem ggX5_house_Jx4a65c_add_9ea2d : GoodIn wsX5_house wsJx4a65c_add_9ea2d := goodIn_r _ [18, 19, 20, 21, 9, 22, 23, 24, 7, 25, 26, 27, 28, 29, 30, 31, 32, 33, 34, 35, 36, 37, 38, 39, 40, 41, 42, 43, 44, 45, 46, 47, 48, 49, 50, 51, 52, 53, 54, 55, 56, 57, 58, 59, 60, 61, 62, 63, 64, 65, 66, 67, 68, 89, 90, 91] (by decide +kernel) (by decide +kernel)
set_option maxRecDepth 20000 in
theorem gX5_house_Jx4a65c_add_9ea2d : GoodIn wsX5_house (wsV RX5 90 RJx4a65c yJx4a65c_add_9ea2d wsJx4a65c_add_9ea2d) := goodIn_app (goodIn_of _ (by decide +kernel)) ggX5_house_Jx4a65c_add_9ea2d
theorem dX5_house_0 : decode cX5_house 0 = .ok (.aload_n 0, 1) := by decide +kernel
theorem dX5_house_1 : decode cX5_house 1 = .ok (.iconst 0, 1) := by decide +kernel
theorem dX5_house_2 : decode cX5_house 2 = .ok (.putfield 50, 3) := by decide +kernel
theorem dX5_house_5 : decode cX5_house 5 = .ok (.aload_n 0, 1) := by decide +kernel
theorem dX5_house_6 : decode cX5_house 6 = .ok (.getfield 10, 3) := by decide +kernel
theorem dX5_house_9 : decode cX5_house 9 = .ok (.invokevirtual 53, 3) := by decide +kernel
theorem dX5_house_12 : decode cX5_house 12 = .ok (.iconst 5, 1) := by decide +kernel
theorem dX5_house_13 : decode cX5_house 13 = .ok (.if_icmp .ne 9, 3) := by decide +kernel
theorem dX5_house_16 : decode cX5_house 16 = .ok (.aload_n 0, 1) := by decide +kernel
theorem dX5_house_17 : decode cX5_house 17 = .ok (.iconst 1, 1) := by decide +kernel
theorem dX5_house_18 : decode cX5_house 18 = .ok (.invokevirtual 86, 3) := by decide +kernel
theorem dX5_house_21 : decode cX5_house 21 = .ok (.ireturn, 1) := by decide +kernel
theorem dX5_house_22 : decode cX5_house 22 = .ok (.iconst 3, 1) := by decide +kernel
theorem dX5_house_23 : decode cX5_house 23 = .ok (.newarray .int, 2) := by decide +kernel
theorem dX5_house_25 : decode cX5_house 25 = .ok (.dup, 1) := by decide +kernel
theorem dX5_house_26 : decode cX5_house 26 = .ok (.iconst 0, 1) := by decide +kernel
theorem dX5_house_27 : decode cX5_house 27 = .ok (.bipush 100, 2) := by decide +kernel
theorem dX5_house_29 : decode cX5_house 29 = .ok (.iastore, 1) := by decide +kernel
theorem dX5_house_30 : decode cX5_house 30 = .ok (.dup, 1) := by decide +kernel
theorem dX5_house_31 : decode cX5_house 31 = .ok (.iconst 1, 1) := by decide +kernel
theorem dX5_house_32 : decode cX5_house 32 = .ok (.iconst 0, 1) := by decide +kernel
theorem dX5_house_33 : decode cX5_house 33 = .ok (.iastore, 1) := by decide +kernel
theorem dX5_house_34 : decode cX5_house 34 = .ok (.dup, 1) := by decide +kernel
theorem dX5_house_35 : decode cX5_house 35 = .ok (.iconst 2, 1) := by decide +kernel
theorem dX5_house_36 : decode cX5_house 36 = .ok (.iconst 0, 1) := by decide +kernel
theorem dX5_house_37 : decode cX5_house 37 = .ok (.iastore, 1) := by decide +kernel
theorem dX5_house_38 : decode cX5_house 38 = .ok (.astore_n 1, 1) := by decide +kernel
theorem dX5_house_39 : decode cX5_house 39 = .ok (.aload_n 0, 1) := by decide +kernel
theorem dX5_house_40 : decode cX5_house 40 = .ok (.getfield 10, 3) := by decide +kernel
theorem dX5_house_43 : decode cX5_house 43 = .ok (.aload_n 1, 1) := by decide +kernel
theorem dX5_house_44 : decode cX5_house 44 = .ok (.invokevirtual 90, 3) := by decide +kernel
theorem dX5_house_47 : decode cX5_house 47 = .ok (.pop, 1) := by decide +kernel
theorem dX5_house_48 : decode cX5_house 48 = .ok (.aload_n 0, 1) := by decide +kernel
theorem dX5_house_49 : decode cX5_house 49 = .ok (.getfield 10, 3) := by decide +kernel
theorem dX5_house_52 : decode cX5_house 52 = .ok (.invokevirtual 53, 3) := by decide +kernel
theorem dX5_house_55 : decode cX5_house 55 = .ok (.iconst 1, 1) := by decide +kernel
theorem dX5_house_56 : decode cX5_house 56 = .ok (.isub, 1) := by decide +kernel
theorem dX5_house_57 : decode cX5_house 57 = .ok (.ireturn, 1) := by decide +kernel
set_option maxRecDepth 20000 in
theorem ggX5_book_X5_isHouse : GoodIn wsX5_book wsX5_isHouse := goodIn_r _ [9, 10, 11, 12, 13, 14, 15, 16, 17, 18, 8, 19, 78, 79, 80, 81, 82, 83, 84, 85, 86, 87, 88, 89, 90, 91, 92, 93, 94, 95, 96, 97, 98, 99, 100] (by decide +kernel) (by decide +kernel)
set_option maxRecDepth 20000 in
theorem gX5_book_X5_isHouse : GoodIn wsX5_book (wsV RX5 94 RX5 yX5_isHouse wsX5_isHouse) := goodIn_app (goodIn_of _ (by decide +kernel)) ggX5_book_X5_isHouse
set_option maxRecDepth 20000 in
theorem ggX5_book_X5_refuse : GoodIn wsX5_book wsX5_refuse := goodIn_r _ [23, 1, 78, 79, 80, 81, 82, 83, 84, 85, 86, 87, 88, 89, 90, 91, 92, 93, 94, 95, 96, 97] (by decide +kernel) (by decide +kernel)
set_option maxRecDepth 20000 in
theorem gX5_book_X5_refuse : GoodIn wsX5_book (wsV RX5 86 RX5 yX5_refuse wsX5_refuse) := goodIn_app (goodIn_of _ (by decide +kernel)) ggX5_book_X5_refuse
set_option maxRecDepth 20000 in
theorem ggX5_book_X5_is : GoodIn wsX5_book wsX5_is := goodIn_r _ [19] (by decide +kernel) (by decide +kernel)
set_option maxRecDepth 20000 in
theorem gX5_book_X5_is : GoodIn wsX5_book (va_wsS RX5 57 yX5_is wsX5_is) := goodIn_app (goodIn_of _ (by decide +kernel)) ggX5_book_X5_is
set_option maxRecDepth 20000 in
theorem ggX5_book_Jx4a65c_size_8abf5 : GoodIn wsX5_book wsJx4a65c_size_8abf5 := goodIn_r _ [15, 16, 98, 99, 100] (by decide +kernel) (by decide +kernel)
set_option maxRecDepth 20000 in
theorem gX5_book_Jx4a65c_size_8abf5 : GoodIn wsX5_book (wsV RX5 53 RJx4a65c yJx4a65c_size_8abf5 wsJx4a65c_size_8abf5) := goodIn_app (goodIn_of _ (by decide +kernel)) ggX5_book_Jx4a65c_size_8abf5
set_option maxRecDepth 20000 in
theorem ggX5_book_Jx4a65c_add_9ea2d : GoodIn wsX5_book wsJx4a65c_add_9ea2d := goodIn_r _ [27, 28, 29, 30, 16, 31, 32, 33, 14, 34, 35, 36, 37, 38, 39, 40, 41, 42, 43, 44, 45, 46, 47, 48, 49, 50, 51, 52, 53, 54, 55, 56, 57, 58, 59, 60, 61, 62, 63, 64, 65, 66, 67, 68, 69, 70, 71, 72, 73, 74, 75, 76, 77, 98, 99, 100] (by decide +kernel) (by decide +kernel)
set_option maxRecDepth 20000 in
theorem gX5_book_Jx4a65c_add_9ea2d : GoodIn wsX5_book (wsV RX5 90 RJx4a65c yJx4a65c_add_9ea2d wsJx4a65c_add_9ea2d) := goodIn_app (goodIn_of _ (by decide +kernel)) ggX5_book_Jx4a65c_add_9ea2d
theorem dX5_book_0 : decode cX5_book 0 = .ok (.aload_n 0, 1) := by decide +kernel
theorem dX5_book_1 : decode cX5_book 1 = .ok (.iconst 0, 1) := by decide +kernel
theorem dX5_book_2 : decode cX5_book 2 = .ok (.putfield 50, 3) := by decide +kernel
theorem dX5_book_5 : decode cX5_book 5 = .ok (.aload_n 0, 1) := by decide +kernel
theorem dX5_book_6 : decode cX5_book 6 = .ok (.iload_n 1, 1) := by decide +kernel
theorem dX5_book_7 : decode cX5_book 7 = .ok (.invokevirtual 94, 3) := by decide +kernel
theorem dX5_book_10 : decode cX5_book 10 = .ok (.ifCond .ne 9, 3) := by decide +kernel
theorem dX5_book_13 : decode cX5_book 13 = .ok (.aload_n 0, 1) := by decide +kernel
theorem dX5_book_14 : decode cX5_book 14 = .ok (.iconst 1, 1) := by decide +kernel
theorem dX5_book_15 : decode cX5_book 15 = .ok (.invokevirtual 86, 3) := by decide +kernel
theorem dX5_book_18 : decode cX5_book 18 = .ok (.ireturn, 1) := by decide +kernel
theorem dX5_book_19 : decode cX5_book 19 = .ok (.iload_n 2, 1) := by decide +kernel
theorem dX5_book_20 : decode cX5_book 20 = .ok (.iconst 0, 1) := by decide +kernel
theorem dX5_book_21 : decode cX5_book 21 = .ok (.bipush 9, 2) := by decide +kernel
theorem dX5_book_23 : decode cX5_book 23 = .ok (.invokestatic 57, 3) := by decide +kernel
theorem dX5_book_26 : decode cX5_book 26 = .ok (.ifCond .eq 47, 3) := by decide +kernel
theorem dX5_book_29 : decode cX5_book 29 = .ok (.iload_n 3, 1) := by decide +kernel
theorem dX5_book_30 : decode cX5_book 30 = .ok (.iconst 0, 1) := by decide +kernel
theorem dX5_book_31 : decode cX5_book 31 = .ok (.iconst 2, 1) := by decide +kernel
theorem dX5_book_32 : decode cX5_book 32 = .ok (.invokestatic 57, 3) := by decide +kernel
theorem dX5_book_35 : decode cX5_book 35 = .ok (.ifCond .eq 38, 3) := by decide +kernel
theorem dX5_book_38 : decode cX5_book 38 = .ok (.iload 4, 2) := by decide +kernel
theorem dX5_book_40 : decode cX5_book 40 = .ok (.bipush 50, 2) := by decide +kernel
theorem dX5_book_42 : decode cX5_book 42 = .ok (.sipush 900, 3) := by decide +kernel
theorem dX5_book_45 : decode cX5_book 45 = .ok (.invokestatic 57, 3) := by decide +kernel
theorem dX5_book_48 : decode cX5_book 48 = .ok (.ifCond .eq 25, 3) := by decide +kernel
theorem dX5_book_51 : decode cX5_book 51 = .ok (.iload 5, 2) := by decide +kernel
theorem dX5_book_53 : decode cX5_book 53 = .ok (.iconst 0, 1) := by decide +kernel
theorem dX5_book_54 : decode cX5_book 54 = .ok (.bipush 60, 2) := by decide +kernel
theorem dX5_book_56 : decode cX5_book 56 = .ok (.invokestatic 57, 3) := by decide +kernel
theorem dX5_book_59 : decode cX5_book 59 = .ok (.ifCond .eq 14, 3) := by decide +kernel
theorem dX5_book_62 : decode cX5_book 62 = .ok (.iload 6, 2) := by decide +kernel
theorem dX5_book_64 : decode cX5_book 64 = .ok (.iconst 0, 1) := by decide +kernel
theorem dX5_book_65 : decode cX5_book 65 = .ok (.bipush 9, 2) := by decide +kernel
theorem dX5_book_67 : decode cX5_book 67 = .ok (.invokestatic 57, 3) := by decide +kernel
theorem dX5_book_70 : decode cX5_book 70 = .ok (.ifCond .ne 9, 3) := by decide +kernel
theorem dX5_book_73 : decode cX5_book 73 = .ok (.aload_n 0, 1) := by decide +kernel
theorem dX5_book_74 : decode cX5_book 74 = .ok (.iconst 2, 1) := by decide +kernel
theorem dX5_book_75 : decode cX5_book 75 = .ok (.invokevirtual 86, 3) := by decide +kernel
theorem dX5_book_78 : decode cX5_book 78 = .ok (.ireturn, 1) := by decide +kernel
theorem dX5_book_79 : decode cX5_book 79 = .ok (.aload_n 0, 1) := by decide +kernel
theorem dX5_book_80 : decode cX5_book 80 = .ok (.getfield 16, 3) := by decide +kernel
theorem dX5_book_83 : decode cX5_book 83 = .ok (.invokevirtual 53, 3) := by decide +kernel
theorem dX5_book_86 : decode cX5_book 86 = .ok (.bipush 16, 2) := by decide +kernel
theorem dX5_book_88 : decode cX5_book 88 = .ok (.if_icmp .ne 9, 3) := by decide +kernel
theorem dX5_book_91 : decode cX5_book 91 = .ok (.aload_n 0, 1) := by decide +kernel
theorem dX5_book_92 : decode cX5_book 92 = .ok (.iconst 3, 1) := by decide +kernel
theorem dX5_book_93 : decode cX5_book 93 = .ok (.invokevirtual 86, 3) := by decide +kernel
theorem dX5_book_96 : decode cX5_book 96 = .ok (.ireturn, 1) := by decide +kernel
theorem dX5_book_97 : decode cX5_book 97 = .ok (.bipush 11, 2) := by decide +kernel
theorem dX5_book_99 : decode cX5_book 99 = .ok (.newarray .int, 2) := by decide +kernel
theorem dX5_book_101 : decode cX5_book 101 = .ok (.dup, 1) := by decide +kernel
theorem dX5_book_102 : decode cX5_book 102 = .ok (.iconst 0, 1) := by decide +kernel
theorem dX5_book_103 : decode cX5_book 103 = .ok (.iload_n 1, 1) := by decide +kernel
theorem dX5_book_104 : decode cX5_book 104 = .ok (.iastore, 1) := by decide +kernel
theorem dX5_book_105 : decode cX5_book 105 = .ok (.dup, 1) := by decide +kernel
theorem dX5_book_106 : decode cX5_book 106 = .ok (.iconst 1, 1) := by decide +kernel
theorem dX5_book_107 : decode cX5_book 107 = .ok (.iload_n 2, 1) := by decide +kernel
theorem dX5_book_108 : decode cX5_book 108 = .ok (.iastore, 1) := by decide +kernel
theorem dX5_book_109 : decode cX5_book 109 = .ok (.dup, 1) := by decide +kernel
theorem dX5_book_110 : decode cX5_book 110 = .ok (.iconst 2, 1) := by decide +kernel
theorem dX5_book_111 : decode cX5_book 111 = .ok (.iload_n 3, 1) := by decide +kernel
theorem dX5_book_112 : decode cX5_book 112 = .ok (.iastore, 1) := by decide +kernel
theorem dX5_book_113 : decode cX5_book 113 = .ok (.dup, 1) := by decide +kernel
theorem dX5_book_114 : decode cX5_book 114 = .ok (.iconst 3, 1) := by decide +kernel
theorem dX5_book_115 : decode cX5_book 115 = .ok (.iload 4, 2) := by decide +kernel
theorem dX5_book_117 : decode cX5_book 117 = .ok (.iastore, 1) := by decide +kernel
theorem dX5_book_118 : decode cX5_book 118 = .ok (.dup, 1) := by decide +kernel
theorem dX5_book_119 : decode cX5_book 119 = .ok (.iconst 4, 1) := by decide +kernel
theorem dX5_book_120 : decode cX5_book 120 = .ok (.iload 5, 2) := by decide +kernel
theorem dX5_book_122 : decode cX5_book 122 = .ok (.iastore, 1) := by decide +kernel
theorem dX5_book_123 : decode cX5_book 123 = .ok (.dup, 1) := by decide +kernel
theorem dX5_book_124 : decode cX5_book 124 = .ok (.iconst 5, 1) := by decide +kernel
theorem dX5_book_125 : decode cX5_book 125 = .ok (.iload 6, 2) := by decide +kernel
theorem dX5_book_127 : decode cX5_book 127 = .ok (.iastore, 1) := by decide +kernel
theorem dX5_book_128 : decode cX5_book 128 = .ok (.dup, 1) := by decide +kernel
theorem dX5_book_129 : decode cX5_book 129 = .ok (.bipush 6, 2) := by decide +kernel
theorem dX5_book_131 : decode cX5_book 131 = .ok (.aload_n 0, 1) := by decide +kernel
theorem dX5_book_132 : decode cX5_book 132 = .ok (.getfield 98, 3) := by decide +kernel
theorem dX5_book_135 : decode cX5_book 135 = .ok (.iastore, 1) := by decide +kernel
theorem dX5_book_136 : decode cX5_book 136 = .ok (.dup, 1) := by decide +kernel
theorem dX5_book_137 : decode cX5_book 137 = .ok (.bipush 7, 2) := by decide +kernel
theorem dX5_book_139 : decode cX5_book 139 = .ok (.iconst 0, 1) := by decide +kernel
theorem dX5_book_140 : decode cX5_book 140 = .ok (.iastore, 1) := by decide +kernel
theorem dX5_book_141 : decode cX5_book 141 = .ok (.dup, 1) := by decide +kernel
theorem dX5_book_142 : decode cX5_book 142 = .ok (.bipush 8, 2) := by decide +kernel
theorem dX5_book_144 : decode cX5_book 144 = .ok (.iconst 0, 1) := by decide +kernel
theorem dX5_book_145 : decode cX5_book 145 = .ok (.iastore, 1) := by decide +kernel
theorem dX5_book_146 : decode cX5_book 146 = .ok (.dup, 1) := by decide +kernel
theorem dX5_book_147 : decode cX5_book 147 = .ok (.bipush 9, 2) := by decide +kernel
theorem dX5_book_149 : decode cX5_book 149 = .ok (.iconst 0, 1) := by decide +kernel
theorem dX5_book_150 : decode cX5_book 150 = .ok (.iastore, 1) := by decide +kernel
theorem dX5_book_151 : decode cX5_book 151 = .ok (.dup, 1) := by decide +kernel
theorem dX5_book_152 : decode cX5_book 152 = .ok (.bipush 10, 2) := by decide +kernel
theorem dX5_book_154 : decode cX5_book 154 = .ok (.iconst (-1), 1) := by decide +kernel
theorem dX5_book_155 : decode cX5_book 155 = .ok (.iastore, 1) := by decide +kernel
theorem dX5_book_156 : decode cX5_book 156 = .ok (.astore 7, 2) := by decide +kernel
theorem dX5_book_158 : decode cX5_book 158 = .ok (.aload_n 0, 1) := by decide +kernel
theorem dX5_book_159 : decode cX5_book 159 = .ok (.getfield 16, 3) := by decide +kernel
theorem dX5_book_162 : decode cX5_book 162 = .ok (.aload 7, 2) := by decide +kernel
theorem dX5_book_164 : decode cX5_book 164 = .ok (.invokevirtual 90, 3) := by decide +kernel
theorem dX5_book_167 : decode cX5_book 167 = .ok (.pop, 1) := by decide +kernel
theorem dX5_book_168 : decode cX5_book 168 = .ok (.aload_n 0, 1) := by decide +kernel
theorem dX5_book_169 : decode cX5_book 169 = .ok (.getfield 16, 3) := by decide +kernel
theorem dX5_book_172 : decode cX5_book 172 = .ok (.invokevirtual 53, 3) := by decide +kernel
theorem dX5_book_175 : decode cX5_book 175 = .ok (.iconst 1, 1) := by decide +kernel
theorem dX5_book_176 : decode cX5_book 176 = .ok (.isub, 1) := by decide +kernel
theorem dX5_book_177 : decode cX5_book 177 = .ok (.ireturn, 1) := by decide +kernel
set_option maxRecDepth 20000 in
theorem ggX5_judge_X5_is : GoodIn wsX5_judge wsX5_is := goodIn_r _ [12] (by decide +kernel) (by decide +kernel)
set_option maxRecDepth 20000 in
theorem gX5_judge_X5_is : GoodIn wsX5_judge (va_wsS RX5 57 yX5_is wsX5_is) := goodIn_app (goodIn_of _ (by decide +kernel)) ggX5_judge_X5_is
set_option maxRecDepth 20000 in
theorem ggX5_judge_X5_refuse : GoodIn wsX5_judge wsX5_refuse := goodIn_r _ [16, 1, 91, 92, 93, 94, 95, 96, 97, 98, 99, 100, 101, 102, 103, 104, 105, 106, 107, 108, 109, 110] (by decide +kernel) (by decide +kernel)
set_option maxRecDepth 20000 in
theorem gX5_judge_X5_refuse : GoodIn wsX5_judge (wsV RX5 86 RX5 yX5_refuse wsX5_refuse) := goodIn_app (goodIn_of _ (by decide +kernel)) ggX5_judge_X5_refuse
set_option maxRecDepth 20000 in
theorem ggX5_judge_Jx4a65c_size_8abf5 : GoodIn wsX5_judge wsJx4a65c_size_8abf5 := goodIn_r _ [20, 21, 111, 112, 113] (by decide +kernel) (by decide +kernel)
set_option maxRecDepth 20000 in
theorem gX5_judge_Jx4a65c_size_8abf5 : GoodIn wsX5_judge (wsV RX5 53 RJx4a65c yJx4a65c_size_8abf5 wsJx4a65c_size_8abf5) := goodIn_app (goodIn_of _ (by decide +kernel)) ggX5_judge_Jx4a65c_size_8abf5
set_option maxRecDepth 20000 in
theorem ggX5_judge_Jx4a65c_add_9ea2d : GoodIn wsX5_judge wsJx4a65c_add_9ea2d := goodIn_r _ [25, 26, 27, 28, 21, 29, 30, 31, 8, 32, 33, 34, 35, 36, 37, 38, 39, 40, 41, 42, 43, 44, 45, 46, 47, 48, 49, 50, 51, 52, 53, 54, 55, 56, 57, 58, 59, 60, 61, 62, 63, 64, 65, 66, 67, 68, 69, 70, 71, 72, 73, 74, 75, 111, 112, 113] (by decide +kernel) (by decide +kernel)
set_option maxRecDepth 20000 in
theorem gX5_judge_Jx4a65c_add_9ea2d : GoodIn wsX5_judge (wsV RX5 90 RJx4a65c yJx4a65c_add_9ea2d wsJx4a65c_add_9ea2d) := goodIn_app (goodIn_of _ (by decide +kernel)) ggX5_judge_Jx4a65c_add_9ea2d
set_option maxRecDepth 20000 in
theorem ggX5_judge_Jx4a65c_init_da8c8 : GoodIn wsX5_judge wsJx4a65c_init_da8c8 := goodIn_r _ [78, 41, 28, 79, 80, 81, 82, 83, 84, 85, 86, 87, 88, 89, 90, 111, 112, 113] (by decide +kernel) (by decide +kernel)
set_option maxRecDepth 20000 in
theorem gX5_judge_Jx4a65c_init_da8c8 : GoodIn wsX5_judge (wsJx4a65c_init_da8c8) := ggX5_judge_Jx4a65c_init_da8c8
theorem dX5_judge_0 : decode cX5_judge 0 = .ok (.aload_n 0, 1) := by decide +kernel
theorem dX5_judge_1 : decode cX5_judge 1 = .ok (.iconst 0, 1) := by decide +kernel
theorem dX5_judge_2 : decode cX5_judge 2 = .ok (.putfield 50, 3) := by decide +kernel
theorem dX5_judge_5 : decode cX5_judge 5 = .ok (.iload_n 1, 1) := by decide +kernel
theorem dX5_judge_6 : decode cX5_judge 6 = .ok (.bipush 20, 2) := by decide +kernel
theorem dX5_judge_8 : decode cX5_judge 8 = .ok (.sipush 200, 3) := by decide +kernel
theorem dX5_judge_11 : decode cX5_judge 11 = .ok (.invokestatic 57, 3) := by decide +kernel
theorem dX5_judge_14 : decode cX5_judge 14 = .ok (.ifCond .eq 24, 3) := by decide +kernel
theorem dX5_judge_17 : decode cX5_judge 17 = .ok (.iload_n 2, 1) := by decide +kernel
theorem dX5_judge_18 : decode cX5_judge 18 = .ok (.iconst 0, 1) := by decide +kernel
theorem dX5_judge_19 : decode cX5_judge 19 = .ok (.bipush 9, 2) := by decide +kernel
theorem dX5_judge_21 : decode cX5_judge 21 = .ok (.invokestatic 57, 3) := by decide +kernel
theorem dX5_judge_24 : decode cX5_judge 24 = .ok (.ifCond .eq 14, 3) := by decide +kernel
theorem dX5_judge_27 : decode cX5_judge 27 = .ok (.iload_n 3, 1) := by decide +kernel
theorem dX5_judge_28 : decode cX5_judge 28 = .ok (.bipush (-10), 2) := by decide +kernel
theorem dX5_judge_30 : decode cX5_judge 30 = .ok (.bipush 10, 2) := by decide +kernel
theorem dX5_judge_32 : decode cX5_judge 32 = .ok (.invokestatic 57, 3) := by decide +kernel
theorem dX5_judge_35 : decode cX5_judge 35 = .ok (.ifCond .ne 9, 3) := by decide +kernel
theorem dX5_judge_38 : decode cX5_judge 38 = .ok (.aload_n 0, 1) := by decide +kernel
theorem dX5_judge_39 : decode cX5_judge 39 = .ok (.iconst 1, 1) := by decide +kernel
theorem dX5_judge_40 : decode cX5_judge 40 = .ok (.invokevirtual 86, 3) := by decide +kernel
theorem dX5_judge_43 : decode cX5_judge 43 = .ok (.ireturn, 1) := by decide +kernel
theorem dX5_judge_44 : decode cX5_judge 44 = .ok (.aload_n 0, 1) := by decide +kernel
theorem dX5_judge_45 : decode cX5_judge 45 = .ok (.getfield 19, 3) := by decide +kernel
theorem dX5_judge_48 : decode cX5_judge 48 = .ok (.invokevirtual 53, 3) := by decide +kernel
theorem dX5_judge_51 : decode cX5_judge 51 = .ok (.iconst 5, 1) := by decide +kernel
theorem dX5_judge_52 : decode cX5_judge 52 = .ok (.if_icmp .eq 10, 3) := by decide +kernel
theorem dX5_judge_55 : decode cX5_judge 55 = .ok (.aload_n 0, 1) := by decide +kernel
theorem dX5_judge_56 : decode cX5_judge 56 = .ok (.getfield 101, 3) := by decide +kernel
theorem dX5_judge_59 : decode cX5_judge 59 = .ok (.ifCond .eq 9, 3) := by decide +kernel
theorem dX5_judge_62 : decode cX5_judge 62 = .ok (.aload_n 0, 1) := by decide +kernel
theorem dX5_judge_63 : decode cX5_judge 63 = .ok (.iconst 2, 1) := by decide +kernel
theorem dX5_judge_64 : decode cX5_judge 64 = .ok (.invokevirtual 86, 3) := by decide +kernel
theorem dX5_judge_67 : decode cX5_judge 67 = .ok (.ireturn, 1) := by decide +kernel
theorem dX5_judge_68 : decode cX5_judge 68 = .ok (.bipush 7, 2) := by decide +kernel
theorem dX5_judge_70 : decode cX5_judge 70 = .ok (.newarray .int, 2) := by decide +kernel
theorem dX5_judge_72 : decode cX5_judge 72 = .ok (.dup, 1) := by decide +kernel
theorem dX5_judge_73 : decode cX5_judge 73 = .ok (.iconst 0, 1) := by decide +kernel
theorem dX5_judge_74 : decode cX5_judge 74 = .ok (.iload_n 1, 1) := by decide +kernel
theorem dX5_judge_75 : decode cX5_judge 75 = .ok (.iastore, 1) := by decide +kernel
theorem dX5_judge_76 : decode cX5_judge 76 = .ok (.dup, 1) := by decide +kernel
theorem dX5_judge_77 : decode cX5_judge 77 = .ok (.iconst 1, 1) := by decide +kernel
theorem dX5_judge_78 : decode cX5_judge 78 = .ok (.iload_n 2, 1) := by decide +kernel
theorem dX5_judge_79 : decode cX5_judge 79 = .ok (.iastore, 1) := by decide +kernel
theorem dX5_judge_80 : decode cX5_judge 80 = .ok (.dup, 1) := by decide +kernel
theorem dX5_judge_81 : decode cX5_judge 81 = .ok (.iconst 2, 1) := by decide +kernel
theorem dX5_judge_82 : decode cX5_judge 82 = .ok (.iload_n 3, 1) := by decide +kernel
theorem dX5_judge_83 : decode cX5_judge 83 = .ok (.iastore, 1) := by decide +kernel
theorem dX5_judge_84 : decode cX5_judge 84 = .ok (.dup, 1) := by decide +kernel
theorem dX5_judge_85 : decode cX5_judge 85 = .ok (.iconst 3, 1) := by decide +kernel
theorem dX5_judge_86 : decode cX5_judge 86 = .ok (.iconst 0, 1) := by decide +kernel
theorem dX5_judge_87 : decode cX5_judge 87 = .ok (.iastore, 1) := by decide +kernel
theorem dX5_judge_88 : decode cX5_judge 88 = .ok (.dup, 1) := by decide +kernel
theorem dX5_judge_89 : decode cX5_judge 89 = .ok (.iconst 4, 1) := by decide +kernel
theorem dX5_judge_90 : decode cX5_judge 90 = .ok (.iconst 0, 1) := by decide +kernel
theorem dX5_judge_91 : decode cX5_judge 91 = .ok (.iastore, 1) := by decide +kernel
theorem dX5_judge_92 : decode cX5_judge 92 = .ok (.dup, 1) := by decide +kernel
theorem dX5_judge_93 : decode cX5_judge 93 = .ok (.iconst 5, 1) := by decide +kernel
theorem dX5_judge_94 : decode cX5_judge 94 = .ok (.iconst 0, 1) := by decide +kernel
theorem dX5_judge_95 : decode cX5_judge 95 = .ok (.iastore, 1) := by decide +kernel
theorem dX5_judge_96 : decode cX5_judge 96 = .ok (.dup, 1) := by decide +kernel
theorem dX5_judge_97 : decode cX5_judge 97 = .ok (.bipush 6, 2) := by decide +kernel
theorem dX5_judge_99 : decode cX5_judge 99 = .ok (.iconst 0, 1) := by decide +kernel
theorem dX5_judge_100 : decode cX5_judge 100 = .ok (.iastore, 1) := by decide +kernel
theorem dX5_judge_101 : decode cX5_judge 101 = .ok (.astore 4, 2) := by decide +kernel
theorem dX5_judge_103 : decode cX5_judge 103 = .ok (.aload_n 0, 1) := by decide +kernel
theorem dX5_judge_104 : decode cX5_judge 104 = .ok (.getfield 19, 3) := by decide +kernel
theorem dX5_judge_107 : decode cX5_judge 107 = .ok (.aload 4, 2) := by decide +kernel
theorem dX5_judge_109 : decode cX5_judge 109 = .ok (.invokevirtual 90, 3) := by decide +kernel
theorem dX5_judge_112 : decode cX5_judge 112 = .ok (.pop, 1) := by decide +kernel
theorem dX5_judge_113 : decode cX5_judge 113 = .ok (.aload_n 0, 1) := by decide +kernel
theorem dX5_judge_114 : decode cX5_judge 114 = .ok (.getfield 29, 3) := by decide +kernel
theorem dX5_judge_117 : decode cX5_judge 117 = .ok (.new 7, 3) := by decide +kernel
theorem dX5_judge_120 : decode cX5_judge 120 = .ok (.dup, 1) := by decide +kernel
theorem dX5_judge_121 : decode cX5_judge 121 = .ok (.invokespecial 9, 3) := by decide +kernel
theorem dX5_judge_124 : decode cX5_judge 124 = .ok (.invokevirtual 90, 3) := by decide +kernel
theorem dX5_judge_127 : decode cX5_judge 127 = .ok (.pop, 1) := by decide +kernel
theorem dX5_judge_128 : decode cX5_judge 128 = .ok (.aload_n 0, 1) := by decide +kernel
theorem dX5_judge_129 : decode cX5_judge 129 = .ok (.getfield 19, 3) := by decide +kernel
theorem dX5_judge_132 : decode cX5_judge 132 = .ok (.invokevirtual 53, 3) := by decide +kernel
theorem dX5_judge_135 : decode cX5_judge 135 = .ok (.iconst 1, 1) := by decide +kernel
theorem dX5_judge_136 : decode cX5_judge 136 = .ok (.isub, 1) := by decide +kernel
theorem dX5_judge_137 : decode cX5_judge 137 = .ok (.ireturn, 1) := by decide +kernel
set_option maxRecDepth 20000 in
theorem ggX5_conflict_X5_isJudge : GoodIn wsX5_conflict wsX5_isJudge := goodIn_r _ [8, 2, 9, 10, 11, 12, 13, 14, 15, 16, 7, 17, 46, 47, 48, 49, 50, 51, 52, 53, 54, 55, 56, 57, 58, 59, 60, 61, 62, 63, 64, 65, 66, 67, 68] (by decide +kernel) (by decide +kernel)
set_option maxRecDepth 20000 in
theorem gX5_conflict_X5_isJudge : GoodIn wsX5_conflict (wsV RX5 104 RX5 yX5_isJudge wsX5_isJudge) := goodIn_app (goodIn_of _ (by decide +kernel)) ggX5_conflict_X5_isJudge
set_option maxRecDepth 20000 in
theorem ggX5_conflict_X5_refuse : GoodIn wsX5_conflict wsX5_refuse := goodIn_r _ [21, 1, 46, 47, 48, 49, 50, 51, 52, 53, 54, 55, 56, 57, 58, 59, 60, 61, 62, 63, 64, 65] (by decide +kernel) (by decide +kernel)
set_option maxRecDepth 20000 in
theorem gX5_conflict_X5_refuse : GoodIn wsX5_conflict (wsV RX5 86 RX5 yX5_refuse wsX5_refuse) := goodIn_app (goodIn_of _ (by decide +kernel)) ggX5_conflict_X5_refuse
set_option maxRecDepth 20000 in
theorem ggX5_conflict_X5_is : GoodIn wsX5_conflict wsX5_is := goodIn_r _ [17] (by decide +kernel) (by decide +kernel)
set_option maxRecDepth 20000 in
theorem gX5_conflict_X5_is : GoodIn wsX5_conflict (va_wsS RX5 57 yX5_is wsX5_is) := goodIn_app (goodIn_of _ (by decide +kernel)) ggX5_conflict_X5_is
set_option maxRecDepth 20000 in
theorem ggX5_conflict_Jx4a65c_get_915e3 : GoodIn wsX5_conflict wsJx4a65c_get_915e3 := goodIn_r _ [25, 14, 26, 27, 28, 29, 30, 31, 32, 33, 34, 35, 36, 12, 37, 38, 66, 67, 68] (by decide +kernel) (by decide +kernel)
set_option maxRecDepth 20000 in
theorem gX5_conflict_Jx4a65c_get_915e3 : GoodIn wsX5_conflict (wsV RX5 107 RJx4a65c yJx4a65c_get_915e3 wsJx4a65c_get_915e3) := goodIn_app (goodIn_of _ (by decide +kernel)) ggX5_conflict_Jx4a65c_get_915e3
set_option maxRecDepth 20000 in
theorem ggX5_conflict_J6_bitCount_0f7a4 : GoodIn wsX5_conflict wsJ6_bitCount_0f7a4 := goodIn_r _ [42, 43, 44, 45] (by decide +kernel) (by decide +kernel)
set_option maxRecDepth 20000 in
theorem gX5_conflict_J6_bitCount_0f7a4 : GoodIn wsX5_conflict (va_wsS RX5 111 yJ6_bitCount_0f7a4 wsJ6_bitCount_0f7a4) := goodIn_app (goodIn_of _ (by decide +kernel)) ggX5_conflict_J6_bitCount_0f7a4
theorem dX5_conflict_0 : decode cX5_conflict 0 = .ok (.aload_n 0, 1) := by decide +kernel
theorem dX5_conflict_1 : decode cX5_conflict 1 = .ok (.iconst 0, 1) := by decide +kernel
theorem dX5_conflict_2 : decode cX5_conflict 2 = .ok (.putfield 50, 3) := by decide +kernel
theorem dX5_conflict_5 : decode cX5_conflict 5 = .ok (.aload_n 0, 1) := by decide +kernel
theorem dX5_conflict_6 : decode cX5_conflict 6 = .ok (.iload_n 1, 1) := by decide +kernel
theorem dX5_conflict_7 : decode cX5_conflict 7 = .ok (.invokevirtual 104, 3) := by decide +kernel
theorem dX5_conflict_10 : decode cX5_conflict 10 = .ok (.ifCond .ne 9, 3) := by decide +kernel
theorem dX5_conflict_13 : decode cX5_conflict 13 = .ok (.aload_n 0, 1) := by decide +kernel
theorem dX5_conflict_14 : decode cX5_conflict 14 = .ok (.iconst 1, 1) := by decide +kernel
theorem dX5_conflict_15 : decode cX5_conflict 15 = .ok (.invokevirtual 86, 3) := by decide +kernel
theorem dX5_conflict_18 : decode cX5_conflict 18 = .ok (.ireturn, 1) := by decide +kernel
theorem dX5_conflict_19 : decode cX5_conflict 19 = .ok (.iload_n 2, 1) := by decide +kernel
theorem dX5_conflict_20 : decode cX5_conflict 20 = .ok (.iconst 0, 1) := by decide +kernel
theorem dX5_conflict_21 : decode cX5_conflict 21 = .ok (.bipush 9, 2) := by decide +kernel
theorem dX5_conflict_23 : decode cX5_conflict 23 = .ok (.invokestatic 57, 3) := by decide +kernel
theorem dX5_conflict_26 : decode cX5_conflict 26 = .ok (.ifCond .ne 9, 3) := by decide +kernel
theorem dX5_conflict_29 : decode cX5_conflict 29 = .ok (.aload_n 0, 1) := by decide +kernel
theorem dX5_conflict_30 : decode cX5_conflict 30 = .ok (.iconst 2, 1) := by decide +kernel
theorem dX5_conflict_31 : decode cX5_conflict 31 = .ok (.invokevirtual 86, 3) := by decide +kernel
theorem dX5_conflict_34 : decode cX5_conflict 34 = .ok (.ireturn, 1) := by decide +kernel
theorem dX5_conflict_35 : decode cX5_conflict 35 = .ok (.aload_n 0, 1) := by decide +kernel
theorem dX5_conflict_36 : decode cX5_conflict 36 = .ok (.getfield 19, 3) := by decide +kernel
theorem dX5_conflict_39 : decode cX5_conflict 39 = .ok (.iload_n 1, 1) := by decide +kernel
theorem dX5_conflict_40 : decode cX5_conflict 40 = .ok (.invokevirtual 107, 3) := by decide +kernel
theorem dX5_conflict_43 : decode cX5_conflict 43 = .ok (.checkcast 76, 3) := by decide +kernel
theorem dX5_conflict_46 : decode cX5_conflict 46 = .ok (.iconst 3, 1) := by decide +kernel
theorem dX5_conflict_47 : decode cX5_conflict 47 = .ok (.dup2, 1) := by decide +kernel
theorem dX5_conflict_48 : decode cX5_conflict 48 = .ok (.iaload, 1) := by decide +kernel
theorem dX5_conflict_49 : decode cX5_conflict 49 = .ok (.iconst 1, 1) := by decide +kernel
theorem dX5_conflict_50 : decode cX5_conflict 50 = .ok (.iload_n 2, 1) := by decide +kernel
theorem dX5_conflict_51 : decode cX5_conflict 51 = .ok (.ishl, 1) := by decide +kernel
theorem dX5_conflict_52 : decode cX5_conflict 52 = .ok (.ior, 1) := by decide +kernel
theorem dX5_conflict_53 : decode cX5_conflict 53 = .ok (.iastore, 1) := by decide +kernel
theorem dX5_conflict_54 : decode cX5_conflict 54 = .ok (.aload_n 0, 1) := by decide +kernel
theorem dX5_conflict_55 : decode cX5_conflict 55 = .ok (.getfield 19, 3) := by decide +kernel
theorem dX5_conflict_58 : decode cX5_conflict 58 = .ok (.iload_n 1, 1) := by decide +kernel
theorem dX5_conflict_59 : decode cX5_conflict 59 = .ok (.invokevirtual 107, 3) := by decide +kernel
theorem dX5_conflict_62 : decode cX5_conflict 62 = .ok (.checkcast 76, 3) := by decide +kernel
theorem dX5_conflict_65 : decode cX5_conflict 65 = .ok (.iconst 3, 1) := by decide +kernel
theorem dX5_conflict_66 : decode cX5_conflict 66 = .ok (.iaload, 1) := by decide +kernel
theorem dX5_conflict_67 : decode cX5_conflict 67 = .ok (.invokestatic 111, 3) := by decide +kernel
theorem dX5_conflict_70 : decode cX5_conflict 70 = .ok (.ireturn, 1) := by decide +kernel
set_option maxRecDepth 20000 in
theorem ggX5_rules_X5_is : GoodIn wsX5_rules wsX5_is := goodIn_r _ [12] (by decide +kernel) (by decide +kernel)
set_option maxRecDepth 20000 in
theorem gX5_rules_X5_is : GoodIn wsX5_rules (va_wsS RX5 57 yX5_is wsX5_is) := goodIn_app (goodIn_of _ (by decide +kernel)) ggX5_rules_X5_is
set_option maxRecDepth 20000 in
theorem ggX5_rules_X5_refuse : GoodIn wsX5_rules wsX5_refuse := goodIn_r _ [16, 1, 17, 18, 19, 20, 21, 22, 23, 24, 25, 26, 27, 28, 29, 30, 31, 32, 33, 34, 35, 36] (by decide +kernel) (by decide +kernel)
set_option maxRecDepth 20000 in
theorem gX5_rules_X5_refuse : GoodIn wsX5_rules (wsV RX5 86 RX5 yX5_refuse wsX5_refuse) := goodIn_app (goodIn_of _ (by decide +kernel)) ggX5_rules_X5_refuse
theorem dX5_rules_0 : decode cX5_rules 0 = .ok (.aload_n 0, 1) := by decide +kernel
theorem dX5_rules_1 : decode cX5_rules 1 = .ok (.iconst 0, 1) := by decide +kernel
theorem dX5_rules_2 : decode cX5_rules 2 = .ok (.putfield 50, 3) := by decide +kernel
theorem dX5_rules_5 : decode cX5_rules 5 = .ok (.iload_n 1, 1) := by decide +kernel
theorem dX5_rules_6 : decode cX5_rules 6 = .ok (.iconst 1, 1) := by decide +kernel
theorem dX5_rules_7 : decode cX5_rules 7 = .ok (.bipush 7, 2) := by decide +kernel
theorem dX5_rules_9 : decode cX5_rules 9 = .ok (.invokestatic 57, 3) := by decide +kernel
theorem dX5_rules_12 : decode cX5_rules 12 = .ok (.ifCond .eq 31, 3) := by decide +kernel
theorem dX5_rules_15 : decode cX5_rules 15 = .ok (.iload_n 2, 1) := by decide +kernel
theorem dX5_rules_16 : decode cX5_rules 16 = .ok (.bipush 50, 2) := by decide +kernel
theorem dX5_rules_18 : decode cX5_rules 18 = .ok (.iload_n 3, 1) := by decide +kernel
theorem dX5_rules_19 : decode cX5_rules 19 = .ok (.invokestatic 57, 3) := by decide +kernel
theorem dX5_rules_22 : decode cX5_rules 22 = .ok (.ifCond .eq 21, 3) := by decide +kernel
theorem dX5_rules_25 : decode cX5_rules 25 = .ok (.iload_n 3, 1) := by decide +kernel
theorem dX5_rules_26 : decode cX5_rules 26 = .ok (.sipush 900, 3) := by decide +kernel
theorem dX5_rules_29 : decode cX5_rules 29 = .ok (.if_icmp .gt 14, 3) := by decide +kernel
theorem dX5_rules_32 : decode cX5_rules 32 = .ok (.iload 4, 2) := by decide +kernel
theorem dX5_rules_34 : decode cX5_rules 34 = .ok (.iconst 0, 1) := by decide +kernel
theorem dX5_rules_35 : decode cX5_rules 35 = .ok (.bipush 50, 2) := by decide +kernel
theorem dX5_rules_37 : decode cX5_rules 37 = .ok (.invokestatic 57, 3) := by decide +kernel
theorem dX5_rules_40 : decode cX5_rules 40 = .ok (.ifCond .ne 9, 3) := by decide +kernel
theorem dX5_rules_43 : decode cX5_rules 43 = .ok (.aload_n 0, 1) := by decide +kernel
theorem dX5_rules_44 : decode cX5_rules 44 = .ok (.iconst 1, 1) := by decide +kernel
theorem dX5_rules_45 : decode cX5_rules 45 = .ok (.invokevirtual 86, 3) := by decide +kernel
theorem dX5_rules_48 : decode cX5_rules 48 = .ok (.ireturn, 1) := by decide +kernel
theorem dX5_rules_49 : decode cX5_rules 49 = .ok (.iconst 4, 1) := by decide +kernel
theorem dX5_rules_50 : decode cX5_rules 50 = .ok (.newarray .int, 2) := by decide +kernel
theorem dX5_rules_52 : decode cX5_rules 52 = .ok (.dup, 1) := by decide +kernel
theorem dX5_rules_53 : decode cX5_rules 53 = .ok (.iconst 0, 1) := by decide +kernel
theorem dX5_rules_54 : decode cX5_rules 54 = .ok (.iload_n 1, 1) := by decide +kernel
theorem dX5_rules_55 : decode cX5_rules 55 = .ok (.iastore, 1) := by decide +kernel
theorem dX5_rules_56 : decode cX5_rules 56 = .ok (.dup, 1) := by decide +kernel
theorem dX5_rules_57 : decode cX5_rules 57 = .ok (.iconst 1, 1) := by decide +kernel
theorem dX5_rules_58 : decode cX5_rules 58 = .ok (.iload_n 2, 1) := by decide +kernel
theorem dX5_rules_59 : decode cX5_rules 59 = .ok (.iastore, 1) := by decide +kernel
theorem dX5_rules_60 : decode cX5_rules 60 = .ok (.dup, 1) := by decide +kernel
theorem dX5_rules_61 : decode cX5_rules 61 = .ok (.iconst 2, 1) := by decide +kernel
theorem dX5_rules_62 : decode cX5_rules 62 = .ok (.iload_n 3, 1) := by decide +kernel
theorem dX5_rules_63 : decode cX5_rules 63 = .ok (.iastore, 1) := by decide +kernel
theorem dX5_rules_64 : decode cX5_rules 64 = .ok (.dup, 1) := by decide +kernel
theorem dX5_rules_65 : decode cX5_rules 65 = .ok (.iconst 3, 1) := by decide +kernel
theorem dX5_rules_66 : decode cX5_rules 66 = .ok (.iload 4, 2) := by decide +kernel
theorem dX5_rules_68 : decode cX5_rules 68 = .ok (.iastore, 1) := by decide +kernel
theorem dX5_rules_69 : decode cX5_rules 69 = .ok (.astore 5, 2) := by decide +kernel
theorem dX5_rules_71 : decode cX5_rules 71 = .ok (.aload 5, 2) := by decide +kernel
theorem dX5_rules_73 : decode cX5_rules 73 = .ok (.iconst 0, 1) := by decide +kernel
theorem dX5_rules_74 : decode cX5_rules 74 = .ok (.aload_n 0, 1) := by decide +kernel
theorem dX5_rules_75 : decode cX5_rules 75 = .ok (.getfield 26, 3) := by decide +kernel
theorem dX5_rules_78 : decode cX5_rules 78 = .ok (.iconst 0, 1) := by decide +kernel
theorem dX5_rules_79 : decode cX5_rules 79 = .ok (.iconst 4, 1) := by decide +kernel
theorem dX5_rules_80 : decode cX5_rules 80 = .ok (.invokestatic 116, 3) := by decide +kernel
theorem dX5_rules_83 : decode cX5_rules 83 = .ok (.aload_n 0, 1) := by decide +kernel
theorem dX5_rules_84 : decode cX5_rules 84 = .ok (.getfield 22, 3) := by decide +kernel
theorem dX5_rules_87 : decode cX5_rules 87 = .ok (.iconst 3, 1) := by decide +kernel
theorem dX5_rules_88 : decode cX5_rules 88 = .ok (.iaload, 1) := by decide +kernel
theorem dX5_rules_89 : decode cX5_rules 89 = .ok (.ireturn, 1) := by decide +kernel
set_option maxRecDepth 20000 in
theorem ggX5_isEntered_Jx4a65c_get_915e3 : GoodIn wsX5_isEntered wsJx4a65c_get_915e3 := goodIn_r _ [8, 9, 10, 11, 12, 13, 14, 15, 16, 17, 18, 19, 20, 7, 21, 22, 43, 44, 45] (by decide +kernel) (by decide +kernel)
set_option maxRecDepth 20000 in
theorem gX5_isEntered_Jx4a65c_get_915e3 : GoodIn wsX5_isEntered (wsV RX5 107 RJx4a65c yJx4a65c_get_915e3 wsJx4a65c_get_915e3) := goodIn_app (goodIn_of _ (by decide +kernel)) ggX5_isEntered_Jx4a65c_get_915e3
theorem dX5_isEntered_0 : decode cX5_isEntered 0 = .ok (.aload_n 0, 1) := by decide +kernel
theorem dX5_isEntered_1 : decode cX5_isEntered 1 = .ok (.getfield 16, 3) := by decide +kernel
theorem dX5_isEntered_4 : decode cX5_isEntered 4 = .ok (.iload_n 1, 1) := by decide +kernel
theorem dX5_isEntered_5 : decode cX5_isEntered 5 = .ok (.invokevirtual 107, 3) := by decide +kernel
theorem dX5_isEntered_8 : decode cX5_isEntered 8 = .ok (.checkcast 76, 3) := by decide +kernel
theorem dX5_isEntered_11 : decode cX5_isEntered 11 = .ok (.bipush 10, 2) := by decide +kernel
theorem dX5_isEntered_13 : decode cX5_isEntered 13 = .ok (.iaload, 1) := by decide +kernel
theorem dX5_isEntered_14 : decode cX5_isEntered 14 = .ok (.aload_n 0, 1) := by decide +kernel
theorem dX5_isEntered_15 : decode cX5_isEntered 15 = .ok (.getfield 98, 3) := by decide +kernel
theorem dX5_isEntered_18 : decode cX5_isEntered 18 = .ok (.if_icmp .ne 7, 3) := by decide +kernel
theorem dX5_isEntered_21 : decode cX5_isEntered 21 = .ok (.iconst 1, 1) := by decide +kernel
theorem dX5_isEntered_22 : decode cX5_isEntered 22 = .ok (.goto 4, 3) := by decide +kernel
theorem dX5_isEntered_25 : decode cX5_isEntered 25 = .ok (.iconst 0, 1) := by decide +kernel
theorem dX5_isEntered_26 : decode cX5_isEntered 26 = .ok (.ireturn, 1) := by decide +kernel
set_option maxRecDepth 20000 in
theorem ggX5_isEligible_Jx4a65c_get_915e3 : GoodIn wsX5_isEligible wsJx4a65c_get_915e3 := goodIn_r _ [9, 10, 11, 12, 13, 14, 15, 16, 17, 18, 19, 20, 21, 8, 22, 23, 48, 49, 50] (by decide +kernel) (by decide +kernel)
set_option maxRecDepth 20000 in
theorem gX5_isEligible_Jx4a65c_get_915e3 : GoodIn wsX5_isEligible (wsV RX5 107 RJx4a65c yJx4a65c_get_915e3 wsJx4a65c_get_915e3) := goodIn_app (goodIn_of _ (by decide +kernel)) ggX5_isEligible_Jx4a65c_get_915e3
set_option maxRecDepth 20000 in
theorem ggX5_isEligible_X5_is : GoodIn wsX5_isEligible wsX5_is := goodIn_r _ [27] (by decide +kernel) (by decide +kernel)
set_option maxRecDepth 20000 in
theorem gX5_isEligible_X5_is : GoodIn wsX5_isEligible (va_wsS RX5 57 yX5_is wsX5_is) := goodIn_app (goodIn_of _ (by decide +kernel)) ggX5_isEligible_X5_is
theorem dX5_isEligible_0 : decode cX5_isEligible 0 = .ok (.aload_n 0, 1) := by decide +kernel
theorem dX5_isEligible_1 : decode cX5_isEligible 1 = .ok (.getfield 16, 3) := by decide +kernel
theorem dX5_isEligible_4 : decode cX5_isEligible 4 = .ok (.iload_n 1, 1) := by decide +kernel
theorem dX5_isEligible_5 : decode cX5_isEligible 5 = .ok (.invokevirtual 107, 3) := by decide +kernel
theorem dX5_isEligible_8 : decode cX5_isEligible 8 = .ok (.checkcast 76, 3) := by decide +kernel
theorem dX5_isEligible_11 : decode cX5_isEligible 11 = .ok (.astore_n 2, 1) := by decide +kernel
theorem dX5_isEligible_12 : decode cX5_isEligible 12 = .ok (.aload_n 2, 1) := by decide +kernel
theorem dX5_isEligible_13 : decode cX5_isEligible 13 = .ok (.bipush 10, 2) := by decide +kernel
theorem dX5_isEligible_15 : decode cX5_isEligible 15 = .ok (.iaload, 1) := by decide +kernel
theorem dX5_isEligible_16 : decode cX5_isEligible 16 = .ok (.iconst (-1), 1) := by decide +kernel
theorem dX5_isEligible_17 : decode cX5_isEligible 17 = .ok (.if_icmp .eq 18, 3) := by decide +kernel
theorem dX5_isEligible_20 : decode cX5_isEligible 20 = .ok (.aload_n 2, 1) := by decide +kernel
theorem dX5_isEligible_21 : decode cX5_isEligible 21 = .ok (.bipush 10, 2) := by decide +kernel
theorem dX5_isEligible_23 : decode cX5_isEligible 23 = .ok (.iaload, 1) := by decide +kernel
theorem dX5_isEligible_24 : decode cX5_isEligible 24 = .ok (.aload_n 0, 1) := by decide +kernel
theorem dX5_isEligible_25 : decode cX5_isEligible 25 = .ok (.getfield 98, 3) := by decide +kernel
theorem dX5_isEligible_28 : decode cX5_isEligible 28 = .ok (.if_icmp .ge 7, 3) := by decide +kernel
theorem dX5_isEligible_31 : decode cX5_isEligible 31 = .ok (.iconst 1, 1) := by decide +kernel
theorem dX5_isEligible_32 : decode cX5_isEligible 32 = .ok (.goto 4, 3) := by decide +kernel
theorem dX5_isEligible_35 : decode cX5_isEligible 35 = .ok (.iconst 0, 1) := by decide +kernel
theorem dX5_isEligible_36 : decode cX5_isEligible 36 = .ok (.istore_n 3, 1) := by decide +kernel
theorem dX5_isEligible_37 : decode cX5_isEligible 37 = .ok (.aload_n 0, 1) := by decide +kernel
theorem dX5_isEligible_38 : decode cX5_isEligible 38 = .ok (.getfield 98, 3) := by decide +kernel
theorem dX5_isEligible_41 : decode cX5_isEligible 41 = .ok (.aload_n 2, 1) := by decide +kernel
theorem dX5_isEligible_42 : decode cX5_isEligible 42 = .ok (.bipush 6, 2) := by decide +kernel
theorem dX5_isEligible_44 : decode cX5_isEligible 44 = .ok (.iaload, 1) := by decide +kernel
theorem dX5_isEligible_45 : decode cX5_isEligible 45 = .ok (.isub, 1) := by decide +kernel
theorem dX5_isEligible_46 : decode cX5_isEligible 46 = .ok (.iconst 1, 1) := by decide +kernel
theorem dX5_isEligible_47 : decode cX5_isEligible 47 = .ok (.if_icmp .gt 48, 3) := by decide +kernel
theorem dX5_isEligible_50 : decode cX5_isEligible 50 = .ok (.iload_n 3, 1) := by decide +kernel
theorem dX5_isEligible_51 : decode cX5_isEligible 51 = .ok (.ifCond .ne 44, 3) := by decide +kernel
theorem dX5_isEligible_54 : decode cX5_isEligible 54 = .ok (.aload_n 0, 1) := by decide +kernel
theorem dX5_isEligible_55 : decode cX5_isEligible 55 = .ok (.getfield 22, 3) := by decide +kernel
theorem dX5_isEligible_58 : decode cX5_isEligible 58 = .ok (.iconst 0, 1) := by decide +kernel
theorem dX5_isEligible_59 : decode cX5_isEligible 59 = .ok (.iaload, 1) := by decide +kernel
theorem dX5_isEligible_60 : decode cX5_isEligible 60 = .ok (.aload_n 2, 1) := by decide +kernel
theorem dX5_isEligible_61 : decode cX5_isEligible 61 = .ok (.iconst 2, 1) := by decide +kernel
theorem dX5_isEligible_62 : decode cX5_isEligible 62 = .ok (.iaload, 1) := by decide +kernel
theorem dX5_isEligible_63 : decode cX5_isEligible 63 = .ok (.ishr, 1) := by decide +kernel
theorem dX5_isEligible_64 : decode cX5_isEligible 64 = .ok (.iconst 1, 1) := by decide +kernel
theorem dX5_isEligible_65 : decode cX5_isEligible 65 = .ok (.iand, 1) := by decide +kernel
theorem dX5_isEligible_66 : decode cX5_isEligible 66 = .ok (.iconst 1, 1) := by decide +kernel
theorem dX5_isEligible_67 : decode cX5_isEligible 67 = .ok (.if_icmp .ne 28, 3) := by decide +kernel
theorem dX5_isEligible_70 : decode cX5_isEligible 70 = .ok (.aload_n 2, 1) := by decide +kernel
theorem dX5_isEligible_71 : decode cX5_isEligible 71 = .ok (.iconst 3, 1) := by decide +kernel
theorem dX5_isEligible_72 : decode cX5_isEligible 72 = .ok (.iaload, 1) := by decide +kernel
theorem dX5_isEligible_73 : decode cX5_isEligible 73 = .ok (.aload_n 0, 1) := by decide +kernel
theorem dX5_isEligible_74 : decode cX5_isEligible 74 = .ok (.getfield 22, 3) := by decide +kernel
theorem dX5_isEligible_77 : decode cX5_isEligible 77 = .ok (.iconst 1, 1) := by decide +kernel
theorem dX5_isEligible_78 : decode cX5_isEligible 78 = .ok (.iaload, 1) := by decide +kernel
theorem dX5_isEligible_79 : decode cX5_isEligible 79 = .ok (.aload_n 0, 1) := by decide +kernel
theorem dX5_isEligible_80 : decode cX5_isEligible 80 = .ok (.getfield 22, 3) := by decide +kernel
theorem dX5_isEligible_83 : decode cX5_isEligible 83 = .ok (.iconst 2, 1) := by decide +kernel
theorem dX5_isEligible_84 : decode cX5_isEligible 84 = .ok (.iaload, 1) := by decide +kernel
theorem dX5_isEligible_85 : decode cX5_isEligible 85 = .ok (.invokestatic 57, 3) := by decide +kernel
theorem dX5_isEligible_88 : decode cX5_isEligible 88 = .ok (.ifCond .eq 7, 3) := by decide +kernel
theorem dX5_isEligible_91 : decode cX5_isEligible 91 = .ok (.iconst 1, 1) := by decide +kernel
theorem dX5_isEligible_92 : decode cX5_isEligible 92 = .ok (.goto 4, 3) := by decide +kernel
theorem dX5_isEligible_95 : decode cX5_isEligible 95 = .ok (.iconst 0, 1) := by decide +kernel
theorem dX5_isEligible_96 : decode cX5_isEligible 96 = .ok (.ireturn, 1) := by decide +kernel
set_option maxRecDepth 20000 in
theorem ggX5_quota_Jx4a65c_size_8abf5 : GoodIn wsX5_quota wsJx4a65c_size_8abf5 := goodIn_r _ [12, 13, 51, 52, 53] (by decide +kernel) (by decide +kernel)
set_option maxRecDepth 20000 in
theorem gX5_quota_Jx4a65c_size_8abf5 : GoodIn wsX5_quota (wsV RX5 53 RJx4a65c yJx4a65c_size_8abf5 wsJx4a65c_size_8abf5) := goodIn_app (goodIn_of _ (by decide +kernel)) ggX5_quota_Jx4a65c_size_8abf5
set_option maxRecDepth 20000 in
theorem ggX5_quota_Jx4a65c_get_915e3 : GoodIn wsX5_quota wsJx4a65c_get_915e3 := goodIn_r _ [17, 13, 18, 19, 20, 21, 22, 23, 24, 25, 26, 27, 28, 11, 29, 30, 51, 52, 53] (by decide +kernel) (by decide +kernel)
set_option maxRecDepth 20000 in
theorem gX5_quota_Jx4a65c_get_915e3 : GoodIn wsX5_quota (wsV RX5 107 RJx4a65c yJx4a65c_get_915e3 wsJx4a65c_get_915e3) := goodIn_app (goodIn_of _ (by decide +kernel)) ggX5_quota_Jx4a65c_get_915e3
theorem dX5_quota_0 : decode cX5_quota 0 = .ok (.iconst 2, 1) := by decide +kernel
theorem dX5_quota_1 : decode cX5_quota 1 = .ok (.istore_n 2, 1) := by decide +kernel
theorem dX5_quota_2 : decode cX5_quota 2 = .ok (.iconst 0, 1) := by decide +kernel
theorem dX5_quota_3 : decode cX5_quota 3 = .ok (.istore_n 3, 1) := by decide +kernel
theorem dX5_quota_4 : decode cX5_quota 4 = .ok (.iload_n 3, 1) := by decide +kernel
theorem dX5_quota_5 : decode cX5_quota 5 = .ok (.aload_n 0, 1) := by decide +kernel
theorem dX5_quota_6 : decode cX5_quota 6 = .ok (.getfield 16, 3) := by decide +kernel
theorem dX5_quota_9 : decode cX5_quota 9 = .ok (.invokevirtual 53, 3) := by decide +kernel
theorem dX5_quota_12 : decode cX5_quota 12 = .ok (.if_icmp .ge 46, 3) := by decide +kernel
theorem dX5_quota_15 : decode cX5_quota 15 = .ok (.iload_n 2, 1) := by decide +kernel
theorem dX5_quota_16 : decode cX5_quota 16 = .ok (.aload_n 0, 1) := by decide +kernel
theorem dX5_quota_17 : decode cX5_quota 17 = .ok (.getfield 122, 3) := by decide +kernel
theorem dX5_quota_20 : decode cX5_quota 20 = .ok (.iload_n 3, 1) := by decide +kernel
theorem dX5_quota_21 : decode cX5_quota 21 = .ok (.ishr, 1) := by decide +kernel
theorem dX5_quota_22 : decode cX5_quota 22 = .ok (.iconst 1, 1) := by decide +kernel
theorem dX5_quota_23 : decode cX5_quota 23 = .ok (.iand, 1) := by decide +kernel
theorem dX5_quota_24 : decode cX5_quota 24 = .ok (.iconst 1, 1) := by decide +kernel
theorem dX5_quota_25 : decode cX5_quota 25 = .ok (.if_icmp .ne 24, 3) := by decide +kernel
theorem dX5_quota_28 : decode cX5_quota 28 = .ok (.aload_n 0, 1) := by decide +kernel
theorem dX5_quota_29 : decode cX5_quota 29 = .ok (.getfield 16, 3) := by decide +kernel
theorem dX5_quota_32 : decode cX5_quota 32 = .ok (.iload_n 3, 1) := by decide +kernel
theorem dX5_quota_33 : decode cX5_quota 33 = .ok (.invokevirtual 107, 3) := by decide +kernel
theorem dX5_quota_36 : decode cX5_quota 36 = .ok (.checkcast 76, 3) := by decide +kernel
theorem dX5_quota_39 : decode cX5_quota 39 = .ok (.iconst 0, 1) := by decide +kernel
theorem dX5_quota_40 : decode cX5_quota 40 = .ok (.iaload, 1) := by decide +kernel
theorem dX5_quota_41 : decode cX5_quota 41 = .ok (.iload_n 1, 1) := by decide +kernel
theorem dX5_quota_42 : decode cX5_quota 42 = .ok (.if_icmp .ne 7, 3) := by decide +kernel
theorem dX5_quota_45 : decode cX5_quota 45 = .ok (.iconst 1, 1) := by decide +kernel
theorem dX5_quota_46 : decode cX5_quota 46 = .ok (.goto 4, 3) := by decide +kernel
theorem dX5_quota_49 : decode cX5_quota 49 = .ok (.iconst 0, 1) := by decide +kernel
theorem dX5_quota_50 : decode cX5_quota 50 = .ok (.iadd, 1) := by decide +kernel
theorem dX5_quota_51 : decode cX5_quota 51 = .ok (.istore_n 2, 1) := by decide +kernel
theorem dX5_quota_52 : decode cX5_quota 52 = .ok (.iinc 3 1, 3) := by decide +kernel
theorem dX5_quota_55 : decode cX5_quota 55 = .ok (.goto (-51), 3) := by decide +kernel
theorem dX5_quota_58 : decode cX5_quota 58 = .ok (.iconst 4, 1) := by decide +kernel
theorem dX5_quota_59 : decode cX5_quota 59 = .ok (.iload_n 2, 1) := by decide +kernel
theorem dX5_quota_60 : decode cX5_quota 60 = .ok (.invokestatic 125, 3) := by decide +kernel
theorem dX5_quota_63 : decode cX5_quota 63 = .ok (.ireturn, 1) := by decide +kernel
set_option maxRecDepth 20000 in
theorem ggX5_entered_Jx4a65c_size_8abf5 : GoodIn wsX5_entered wsJx4a65c_size_8abf5 := goodIn_r _ [6, 7, 52, 53, 54] (by decide +kernel) (by decide +kernel)
set_option maxRecDepth 20000 in
theorem gX5_entered_Jx4a65c_size_8abf5 : GoodIn wsX5_entered (wsV RX5 53 RJx4a65c yJx4a65c_size_8abf5 wsJx4a65c_size_8abf5) := goodIn_app (goodIn_of _ (by decide +kernel)) ggX5_entered_Jx4a65c_size_8abf5
set_option maxRecDepth 20000 in
theorem ggX5_entered_X5_isEntered : GoodIn wsX5_entered wsX5_isEntered := goodIn_r _ [12, 1, 13, 14, 15, 16, 17, 5, 18, 7, 19, 20, 21, 22, 23, 24, 25, 26, 27, 28, 29, 30, 31, 32, 33, 34, 35, 36, 37, 38, 39, 40, 41, 42, 43, 44, 45, 46, 47, 48, 49, 50, 51, 52, 53, 54] (by decide +kernel) (by decide +kernel)
set_option maxRecDepth 20000 in
theorem gX5_entered_X5_isEntered : GoodIn wsX5_entered (wsV RX5 131 RX5 yX5_isEntered wsX5_isEntered) := goodIn_app (goodIn_of _ (by decide +kernel)) ggX5_entered_X5_isEntered
theorem dX5_entered_0 : decode cX5_entered 0 = .ok (.iconst 0, 1) := by decide +kernel
theorem dX5_entered_1 : decode cX5_entered 1 = .ok (.istore_n 1, 1) := by decide +kernel
theorem dX5_entered_2 : decode cX5_entered 2 = .ok (.iconst 0, 1) := by decide +kernel
theorem dX5_entered_3 : decode cX5_entered 3 = .ok (.istore_n 2, 1) := by decide +kernel
theorem dX5_entered_4 : decode cX5_entered 4 = .ok (.iload_n 2, 1) := by decide +kernel
theorem dX5_entered_5 : decode cX5_entered 5 = .ok (.aload_n 0, 1) := by decide +kernel
theorem dX5_entered_6 : decode cX5_entered 6 = .ok (.getfield 16, 3) := by decide +kernel
theorem dX5_entered_9 : decode cX5_entered 9 = .ok (.invokevirtual 53, 3) := by decide +kernel
theorem dX5_entered_12 : decode cX5_entered 12 = .ok (.if_icmp .ge 25, 3) := by decide +kernel
theorem dX5_entered_15 : decode cX5_entered 15 = .ok (.iload_n 1, 1) := by decide +kernel
theorem dX5_entered_16 : decode cX5_entered 16 = .ok (.aload_n 0, 1) := by decide +kernel
theorem dX5_entered_17 : decode cX5_entered 17 = .ok (.iload_n 2, 1) := by decide +kernel
theorem dX5_entered_18 : decode cX5_entered 18 = .ok (.invokevirtual 131, 3) := by decide +kernel
theorem dX5_entered_21 : decode cX5_entered 21 = .ok (.ifCond .eq 7, 3) := by decide +kernel
theorem dX5_entered_24 : decode cX5_entered 24 = .ok (.iconst 1, 1) := by decide +kernel
theorem dX5_entered_25 : decode cX5_entered 25 = .ok (.goto 4, 3) := by decide +kernel
theorem dX5_entered_28 : decode cX5_entered 28 = .ok (.iconst 0, 1) := by decide +kernel
theorem dX5_entered_29 : decode cX5_entered 29 = .ok (.iadd, 1) := by decide +kernel
theorem dX5_entered_30 : decode cX5_entered 30 = .ok (.istore_n 1, 1) := by decide +kernel
theorem dX5_entered_31 : decode cX5_entered 31 = .ok (.iinc 2 1, 3) := by decide +kernel
theorem dX5_entered_34 : decode cX5_entered 34 = .ok (.goto (-30), 3) := by decide +kernel
theorem dX5_entered_37 : decode cX5_entered 37 = .ok (.iload_n 1, 1) := by decide +kernel
theorem dX5_entered_38 : decode cX5_entered 38 = .ok (.ireturn, 1) := by decide +kernel
set_option maxRecDepth 20000 in
theorem ggX5_houseOf_Jx4a65c_get_915e3 : GoodIn wsX5_houseOf wsJx4a65c_get_915e3 := goodIn_r _ [8, 9, 10, 11, 12, 13, 14, 15, 16, 17, 18, 19, 20, 7, 21, 22, 43, 44, 45] (by decide +kernel) (by decide +kernel)
set_option maxRecDepth 20000 in
theorem gX5_houseOf_Jx4a65c_get_915e3 : GoodIn wsX5_houseOf (wsV RX5 107 RJx4a65c yJx4a65c_get_915e3 wsJx4a65c_get_915e3) := goodIn_app (goodIn_of _ (by decide +kernel)) ggX5_houseOf_Jx4a65c_get_915e3
theorem dX5_houseOf_0 : decode cX5_houseOf 0 = .ok (.aload_n 0, 1) := by decide +kernel
theorem dX5_houseOf_1 : decode cX5_houseOf 1 = .ok (.getfield 10, 3) := by decide +kernel
theorem dX5_houseOf_4 : decode cX5_houseOf 4 = .ok (.aload_n 0, 1) := by decide +kernel
theorem dX5_houseOf_5 : decode cX5_houseOf 5 = .ok (.getfield 16, 3) := by decide +kernel
theorem dX5_houseOf_8 : decode cX5_houseOf 8 = .ok (.iload_n 1, 1) := by decide +kernel
theorem dX5_houseOf_9 : decode cX5_houseOf 9 = .ok (.invokevirtual 107, 3) := by decide +kernel
theorem dX5_houseOf_12 : decode cX5_houseOf 12 = .ok (.checkcast 76, 3) := by decide +kernel
theorem dX5_houseOf_15 : decode cX5_houseOf 15 = .ok (.iconst 0, 1) := by decide +kernel
theorem dX5_houseOf_16 : decode cX5_houseOf 16 = .ok (.iaload, 1) := by decide +kernel
theorem dX5_houseOf_17 : decode cX5_houseOf 17 = .ok (.invokevirtual 107, 3) := by decide +kernel
theorem dX5_houseOf_20 : decode cX5_houseOf 20 = .ok (.checkcast 76, 3) := by decide +kernel
theorem dX5_houseOf_23 : decode cX5_houseOf 23 = .ok (.areturn, 1) := by decide +kernel
set_option maxRecDepth 20000 in
theorem ggX5_isConflict_Jx4a65c_get_915e3 : GoodIn wsX5_isConflict wsJx4a65c_get_915e3 := goodIn_r _ [8, 9, 10, 11, 12, 13, 14, 15, 16, 17, 18, 19, 20, 7, 21, 22, 43, 44, 45] (by decide +kernel) (by decide +kernel)
set_option maxRecDepth 20000 in
theorem gX5_isConflict_Jx4a65c_get_915e3 : GoodIn wsX5_isConflict (wsV RX5 107 RJx4a65c yJx4a65c_get_915e3 wsJx4a65c_get_915e3) := goodIn_app (goodIn_of _ (by decide +kernel)) ggX5_isConflict_Jx4a65c_get_915e3
theorem dX5_isConflict_0 : decode cX5_isConflict 0 = .ok (.aload_n 0, 1) := by decide +kernel
theorem dX5_isConflict_1 : decode cX5_isConflict 1 = .ok (.getfield 19, 3) := by decide +kernel
theorem dX5_isConflict_4 : decode cX5_isConflict 4 = .ok (.iload_n 1, 1) := by decide +kernel
theorem dX5_isConflict_5 : decode cX5_isConflict 5 = .ok (.invokevirtual 107, 3) := by decide +kernel
theorem dX5_isConflict_8 : decode cX5_isConflict 8 = .ok (.checkcast 76, 3) := by decide +kernel
theorem dX5_isConflict_11 : decode cX5_isConflict 11 = .ok (.iconst 3, 1) := by decide +kernel
theorem dX5_isConflict_12 : decode cX5_isConflict 12 = .ok (.iaload, 1) := by decide +kernel
theorem dX5_isConflict_13 : decode cX5_isConflict 13 = .ok (.aload_n 0, 1) := by decide +kernel
theorem dX5_isConflict_14 : decode cX5_isConflict 14 = .ok (.getfield 16, 3) := by decide +kernel
theorem dX5_isConflict_17 : decode cX5_isConflict 17 = .ok (.iload_n 2, 1) := by decide +kernel
theorem dX5_isConflict_18 : decode cX5_isConflict 18 = .ok (.invokevirtual 107, 3) := by decide +kernel
theorem dX5_isConflict_21 : decode cX5_isConflict 21 = .ok (.checkcast 76, 3) := by decide +kernel
theorem dX5_isConflict_24 : decode cX5_isConflict 24 = .ok (.iconst 1, 1) := by decide +kernel
theorem dX5_isConflict_25 : decode cX5_isConflict 25 = .ok (.iaload, 1) := by decide +kernel
theorem dX5_isConflict_26 : decode cX5_isConflict 26 = .ok (.ishr, 1) := by decide +kernel
theorem dX5_isConflict_27 : decode cX5_isConflict 27 = .ok (.iconst 1, 1) := by decide +kernel
theorem dX5_isConflict_28 : decode cX5_isConflict 28 = .ok (.iand, 1) := by decide +kernel
theorem dX5_isConflict_29 : decode cX5_isConflict 29 = .ok (.iconst 1, 1) := by decide +kernel
theorem dX5_isConflict_30 : decode cX5_isConflict 30 = .ok (.if_icmp .ne 7, 3) := by decide +kernel
theorem dX5_isConflict_33 : decode cX5_isConflict 33 = .ok (.iconst 1, 1) := by decide +kernel
theorem dX5_isConflict_34 : decode cX5_isConflict 34 = .ok (.goto 4, 3) := by decide +kernel
theorem dX5_isConflict_37 : decode cX5_isConflict 37 = .ok (.iconst 0, 1) := by decide +kernel
theorem dX5_isConflict_38 : decode cX5_isConflict 38 = .ok (.ireturn, 1) := by decide +kernel
set_option maxRecDepth 20000 in
theorem ggX5_enterNow_Jx4a65c_get_915e3 : GoodIn wsX5_enterNow wsJx4a65c_get_915e3 := goodIn_r _ [8, 9, 10, 11, 12, 13, 14, 15, 16, 17, 18, 19, 20, 7, 21, 22, 61, 62, 63] (by decide +kernel) (by decide +kernel)
set_option maxRecDepth 20000 in
theorem gX5_enterNow_Jx4a65c_get_915e3 : GoodIn wsX5_enterNow (wsV RX5 107 RJx4a65c yJx4a65c_get_915e3 wsJx4a65c_get_915e3) := goodIn_app (goodIn_of _ (by decide +kernel)) ggX5_enterNow_Jx4a65c_get_915e3
set_option maxRecDepth 20000 in
theorem ggX5_enterNow_X5_houseOf : GoodIn wsX5_enterNow wsX5_houseOf := goodIn_r _ [27, 28, 1, 2, 4, 5, 6, 7, 8, 9, 10, 11, 12, 13, 14, 15, 16, 17, 18, 19, 20, 21, 22, 41, 42, 43, 44, 45, 46, 47, 48, 49, 50, 51, 52, 53, 54, 55, 56, 57, 58, 59, 60, 61, 62, 63] (by decide +kernel) (by decide +kernel)
set_option maxRecDepth 20000 in
theorem gX5_enterNow_X5_houseOf : GoodIn wsX5_enterNow (wsV RX5 134 RX5 yX5_houseOf wsX5_houseOf) := goodIn_app (goodIn_of _ (by decide +kernel)) ggX5_enterNow_X5_houseOf
set_option maxRecDepth 20000 in
theorem ggX5_enterNow_X5_entered : GoodIn wsX5_enterNow wsX5_entered := goodIn_r _ [32, 1, 33, 34, 35, 7, 36, 9, 37, 38, 39, 26, 40, 2, 3, 4, 5, 6, 8, 10, 11, 12, 13, 14, 15, 16, 17, 18, 19, 20, 21, 22, 41, 42, 43, 44, 45, 46, 47, 48, 49, 50, 51, 52, 53, 54, 55, 56, 57, 58, 59, 60, 61, 62, 63] (by decide +kernel) (by decide +kernel)
set_option maxRecDepth 20000 in
theorem gX5_enterNow_X5_entered : GoodIn wsX5_enterNow (wsV RX5 138 RX5 yX5_entered wsX5_entered) := goodIn_app (goodIn_of _ (by decide +kernel)) ggX5_enterNow_X5_entered
theorem dX5_enterNow_0 : decode cX5_enterNow 0 = .ok (.aload_n 0, 1) := by decide +kernel
theorem dX5_enterNow_1 : decode cX5_enterNow 1 = .ok (.getfield 16, 3) := by decide +kernel
theorem dX5_enterNow_4 : decode cX5_enterNow 4 = .ok (.iload_n 1, 1) := by decide +kernel
theorem dX5_enterNow_5 : decode cX5_enterNow 5 = .ok (.invokevirtual 107, 3) := by decide +kernel
theorem dX5_enterNow_8 : decode cX5_enterNow 8 = .ok (.checkcast 76, 3) := by decide +kernel
theorem dX5_enterNow_11 : decode cX5_enterNow 11 = .ok (.bipush 10, 2) := by decide +kernel
theorem dX5_enterNow_13 : decode cX5_enterNow 13 = .ok (.aload_n 0, 1) := by decide +kernel
theorem dX5_enterNow_14 : decode cX5_enterNow 14 = .ok (.getfield 98, 3) := by decide +kernel
theorem dX5_enterNow_17 : decode cX5_enterNow 17 = .ok (.iastore, 1) := by decide +kernel
theorem dX5_enterNow_18 : decode cX5_enterNow 18 = .ok (.aload_n 0, 1) := by decide +kernel
theorem dX5_enterNow_19 : decode cX5_enterNow 19 = .ok (.iload_n 1, 1) := by decide +kernel
theorem dX5_enterNow_20 : decode cX5_enterNow 20 = .ok (.invokevirtual 134, 3) := by decide +kernel
theorem dX5_enterNow_23 : decode cX5_enterNow 23 = .ok (.iconst 0, 1) := by decide +kernel
theorem dX5_enterNow_24 : decode cX5_enterNow 24 = .ok (.dup2, 1) := by decide +kernel
theorem dX5_enterNow_25 : decode cX5_enterNow 25 = .ok (.iaload, 1) := by decide +kernel
theorem dX5_enterNow_26 : decode cX5_enterNow 26 = .ok (.iload_n 2, 1) := by decide +kernel
theorem dX5_enterNow_27 : decode cX5_enterNow 27 = .ok (.isub, 1) := by decide +kernel
theorem dX5_enterNow_28 : decode cX5_enterNow 28 = .ok (.iastore, 1) := by decide +kernel
theorem dX5_enterNow_29 : decode cX5_enterNow 29 = .ok (.aload_n 0, 1) := by decide +kernel
theorem dX5_enterNow_30 : decode cX5_enterNow 30 = .ok (.invokevirtual 138, 3) := by decide +kernel
theorem dX5_enterNow_33 : decode cX5_enterNow 33 = .ok (.ireturn, 1) := by decide +kernel
set_option maxRecDepth 20000 in
theorem ggX5_enter_X5_isBook : GoodIn wsX5_enter wsX5_isBook := goodIn_r _ [10, 3, 11, 12, 13, 14, 15, 16, 17, 18, 9, 19, 72, 73, 74, 75, 76, 77, 78, 79, 80, 81, 82, 83, 84, 85, 86, 87, 88, 89, 90, 91, 92, 93, 94] (by decide +kernel) (by decide +kernel)
set_option maxRecDepth 20000 in
theorem gX5_enter_X5_isBook : GoodIn wsX5_enter (wsV RX5 141 RX5 yX5_isBook wsX5_isBook) := goodIn_app (goodIn_of _ (by decide +kernel)) ggX5_enter_X5_isBook
set_option maxRecDepth 20000 in
theorem ggX5_enter_X5_refuse : GoodIn wsX5_enter wsX5_refuse := goodIn_r _ [23, 1, 72, 73, 74, 75, 76, 77, 78, 79, 80, 81, 82, 83, 84, 85, 86, 87, 88, 89, 90, 91] (by decide +kernel) (by decide +kernel)
set_option maxRecDepth 20000 in
theorem gX5_enter_X5_refuse : GoodIn wsX5_enter (wsV RX5 86 RX5 yX5_refuse wsX5_refuse) := goodIn_app (goodIn_of _ (by decide +kernel)) ggX5_enter_X5_refuse
set_option maxRecDepth 20000 in
theorem ggX5_enter_X5_isEntered : GoodIn wsX5_enter wsX5_isEntered := goodIn_r _ [27, 3, 4, 28, 29, 30, 31, 14, 32, 16, 33, 34, 35, 36, 37, 38, 39, 40, 41, 42, 43, 44, 45, 72, 73, 74, 75, 76, 77, 78, 79, 80, 81, 82, 83, 84, 85, 86, 87, 88, 89, 90, 91, 92, 93, 94] (by decide +kernel) (by decide +kernel)
set_option maxRecDepth 20000 in
theorem gX5_enter_X5_isEntered : GoodIn wsX5_enter (wsV RX5 131 RX5 yX5_isEntered wsX5_isEntered) := goodIn_app (goodIn_of _ (by decide +kernel)) ggX5_enter_X5_isEntered
set_option maxRecDepth 20000 in
theorem ggX5_enter_X5_isEligible : GoodIn wsX5_enter wsX5_isEligible := goodIn_r _ [49, 3, 4, 28, 5, 29, 30, 31, 14, 32, 16, 33, 34, 35, 36, 37, 38, 39, 40, 41, 42, 43, 44, 45, 17, 18, 9, 19, 72, 73, 74, 75, 76, 77, 78, 79, 80, 81, 82, 83, 84, 85, 86, 87, 88, 89, 90, 91, 92, 93, 94] (by decide +kernel) (by decide +kernel)
set_option maxRecDepth 20000 in
theorem gX5_enter_X5_isEligible : GoodIn wsX5_enter (wsV RX5 144 RX5 yX5_isEligible wsX5_isEligible) := goodIn_app (goodIn_of _ (by decide +kernel)) ggX5_enter_X5_isEligible
set_option maxRecDepth 20000 in
theorem ggX5_enter_X5_houseOf : GoodIn wsX5_enter wsX5_houseOf := goodIn_r _ [53, 54, 3, 4, 29, 30, 31, 14, 32, 16, 33, 34, 35, 36, 37, 38, 39, 40, 41, 42, 43, 44, 45, 72, 73, 74, 75, 76, 77, 78, 79, 80, 81, 82, 83, 84, 85, 86, 87, 88, 89, 90, 91, 92, 93, 94] (by decide +kernel) (by decide +kernel)
set_option maxRecDepth 20000 in
theorem gX5_enter_X5_houseOf : GoodIn wsX5_enter (wsV RX5 134 RX5 yX5_houseOf wsX5_houseOf) := goodIn_app (goodIn_of _ (by decide +kernel)) ggX5_enter_X5_houseOf
set_option maxRecDepth 20000 in
theorem ggX5_enter_Jx4a65c_get_915e3 : GoodIn wsX5_enter wsJx4a65c_get_915e3 := goodIn_r _ [32, 16, 33, 34, 35, 36, 37, 38, 39, 40, 41, 42, 43, 14, 44, 45, 92, 93, 94] (by decide +kernel) (by decide +kernel)
set_option maxRecDepth 20000 in
theorem gX5_enter_Jx4a65c_get_915e3 : GoodIn wsX5_enter (wsV RX5 107 RJx4a65c yJx4a65c_get_915e3 wsJx4a65c_get_915e3) := goodIn_app (goodIn_of _ (by decide +kernel)) ggX5_enter_Jx4a65c_get_915e3
set_option maxRecDepth 20000 in
theorem ggX5_enter_X5_quota : GoodIn wsX5_enter wsX5_quota := goodIn_r _ [58, 3, 59, 4, 60, 61, 62, 63, 11, 12, 13, 14, 15, 16, 29, 30, 31, 32, 33, 34, 35, 36, 37, 38, 39, 40, 41, 42, 43, 44, 45, 72, 73, 74, 75, 76, 77, 78, 79, 80, 81, 82, 83, 84, 85, 86, 87, 88, 89, 90, 91, 92, 93, 94] (by decide +kernel) (by decide +kernel)
set_option maxRecDepth 20000 in
theorem gX5_enter_X5_quota : GoodIn wsX5_enter (wsV RX5 147 RX5 yX5_quota wsX5_quota) := goodIn_app (goodIn_of _ (by decide +kernel)) ggX5_enter_X5_quota
set_option maxRecDepth 20000 in
theorem ggX5_enter_X5_enterNow : GoodIn wsX5_enter wsX5_enterNow := goodIn_r _ [67, 3, 4, 28, 29, 30, 31, 14, 32, 16, 33, 34, 35, 36, 37, 38, 39, 40, 41, 42, 43, 44, 45, 50, 51, 52, 9, 53, 54, 68, 69, 70, 71, 11, 12, 13, 15, 24, 25, 26, 27, 72, 73, 74, 75, 76, 77, 78, 79, 80, 81, 82, 83, 84, 85, 86, 87, 88, 89, 90, 91, 92, 93, 94] (by decide +kernel) (by decide +kernel)
set_option maxRecDepth 20000 in
theorem gX5_enter_X5_enterNow : GoodIn wsX5_enter (wsV RX5 150 RX5 yX5_enterNow wsX5_enterNow) := goodIn_app (goodIn_of _ (by decide +kernel)) ggX5_enter_X5_enterNow
theorem dX5_enter_0 : decode cX5_enter 0 = .ok (.aload_n 0, 1) := by decide +kernel
theorem dX5_enter_1 : decode cX5_enter 1 = .ok (.iconst 0, 1) := by decide +kernel
theorem dX5_enter_2 : decode cX5_enter 2 = .ok (.putfield 50, 3) := by decide +kernel
theorem dX5_enter_5 : decode cX5_enter 5 = .ok (.aload_n 0, 1) := by decide +kernel
theorem dX5_enter_6 : decode cX5_enter 6 = .ok (.iload_n 1, 1) := by decide +kernel
theorem dX5_enter_7 : decode cX5_enter 7 = .ok (.invokevirtual 141, 3) := by decide +kernel
theorem dX5_enter_10 : decode cX5_enter 10 = .ok (.ifCond .ne 9, 3) := by decide +kernel
theorem dX5_enter_13 : decode cX5_enter 13 = .ok (.aload_n 0, 1) := by decide +kernel
theorem dX5_enter_14 : decode cX5_enter 14 = .ok (.iconst 1, 1) := by decide +kernel
theorem dX5_enter_15 : decode cX5_enter 15 = .ok (.invokevirtual 86, 3) := by decide +kernel
theorem dX5_enter_18 : decode cX5_enter 18 = .ok (.ireturn, 1) := by decide +kernel
theorem dX5_enter_19 : decode cX5_enter 19 = .ok (.aload_n 0, 1) := by decide +kernel
theorem dX5_enter_20 : decode cX5_enter 20 = .ok (.getfield 101, 3) := by decide +kernel
theorem dX5_enter_23 : decode cX5_enter 23 = .ok (.ifCond .ne 11, 3) := by decide +kernel
theorem dX5_enter_26 : decode cX5_enter 26 = .ok (.aload_n 0, 1) := by decide +kernel
theorem dX5_enter_27 : decode cX5_enter 27 = .ok (.iload_n 1, 1) := by decide +kernel
theorem dX5_enter_28 : decode cX5_enter 28 = .ok (.invokevirtual 131, 3) := by decide +kernel
theorem dX5_enter_31 : decode cX5_enter 31 = .ok (.ifCond .eq 9, 3) := by decide +kernel
theorem dX5_enter_34 : decode cX5_enter 34 = .ok (.aload_n 0, 1) := by decide +kernel
theorem dX5_enter_35 : decode cX5_enter 35 = .ok (.iconst 2, 1) := by decide +kernel
theorem dX5_enter_36 : decode cX5_enter 36 = .ok (.invokevirtual 86, 3) := by decide +kernel
theorem dX5_enter_39 : decode cX5_enter 39 = .ok (.ireturn, 1) := by decide +kernel
theorem dX5_enter_40 : decode cX5_enter 40 = .ok (.aload_n 0, 1) := by decide +kernel
theorem dX5_enter_41 : decode cX5_enter 41 = .ok (.iload_n 1, 1) := by decide +kernel
theorem dX5_enter_42 : decode cX5_enter 42 = .ok (.invokevirtual 144, 3) := by decide +kernel
theorem dX5_enter_45 : decode cX5_enter 45 = .ok (.ifCond .ne 6, 3) := by decide +kernel
theorem dX5_enter_48 : decode cX5_enter 48 = .ok (.bipush (-2), 2) := by decide +kernel
theorem dX5_enter_50 : decode cX5_enter 50 = .ok (.ireturn, 1) := by decide +kernel
theorem dX5_enter_51 : decode cX5_enter 51 = .ok (.aload_n 0, 1) := by decide +kernel
theorem dX5_enter_52 : decode cX5_enter 52 = .ok (.iload_n 1, 1) := by decide +kernel
theorem dX5_enter_53 : decode cX5_enter 53 = .ok (.invokevirtual 134, 3) := by decide +kernel
theorem dX5_enter_56 : decode cX5_enter 56 = .ok (.iconst 1, 1) := by decide +kernel
theorem dX5_enter_57 : decode cX5_enter 57 = .ok (.iaload, 1) := by decide +kernel
theorem dX5_enter_58 : decode cX5_enter 58 = .ok (.aload_n 0, 1) := by decide +kernel
theorem dX5_enter_59 : decode cX5_enter 59 = .ok (.aload_n 0, 1) := by decide +kernel
theorem dX5_enter_60 : decode cX5_enter 60 = .ok (.getfield 16, 3) := by decide +kernel
theorem dX5_enter_63 : decode cX5_enter 63 = .ok (.iload_n 1, 1) := by decide +kernel
theorem dX5_enter_64 : decode cX5_enter 64 = .ok (.invokevirtual 107, 3) := by decide +kernel
theorem dX5_enter_67 : decode cX5_enter 67 = .ok (.checkcast 76, 3) := by decide +kernel
theorem dX5_enter_70 : decode cX5_enter 70 = .ok (.iconst 0, 1) := by decide +kernel
theorem dX5_enter_71 : decode cX5_enter 71 = .ok (.iaload, 1) := by decide +kernel
theorem dX5_enter_72 : decode cX5_enter 72 = .ok (.invokevirtual 147, 3) := by decide +kernel
theorem dX5_enter_75 : decode cX5_enter 75 = .ok (.if_icmp .lt 6, 3) := by decide +kernel
theorem dX5_enter_78 : decode cX5_enter 78 = .ok (.bipush (-3), 2) := by decide +kernel
theorem dX5_enter_80 : decode cX5_enter 80 = .ok (.ireturn, 1) := by decide +kernel
theorem dX5_enter_81 : decode cX5_enter 81 = .ok (.aload_n 0, 1) := by decide +kernel
theorem dX5_enter_82 : decode cX5_enter 82 = .ok (.iload_n 1, 1) := by decide +kernel
theorem dX5_enter_83 : decode cX5_enter 83 = .ok (.invokevirtual 134, 3) := by decide +kernel
theorem dX5_enter_86 : decode cX5_enter 86 = .ok (.iconst 1, 1) := by decide +kernel
theorem dX5_enter_87 : decode cX5_enter 87 = .ok (.dup2, 1) := by decide +kernel
theorem dX5_enter_88 : decode cX5_enter 88 = .ok (.iaload, 1) := by decide +kernel
theorem dX5_enter_89 : decode cX5_enter 89 = .ok (.iconst 1, 1) := by decide +kernel
theorem dX5_enter_90 : decode cX5_enter 90 = .ok (.iadd, 1) := by decide +kernel
theorem dX5_enter_91 : decode cX5_enter 91 = .ok (.iastore, 1) := by decide +kernel
theorem dX5_enter_92 : decode cX5_enter 92 = .ok (.aload_n 0, 1) := by decide +kernel
theorem dX5_enter_93 : decode cX5_enter 93 = .ok (.iload_n 1, 1) := by decide +kernel
theorem dX5_enter_94 : decode cX5_enter 94 = .ok (.aload_n 0, 1) := by decide +kernel
theorem dX5_enter_95 : decode cX5_enter 95 = .ok (.getfield 22, 3) := by decide +kernel
theorem dX5_enter_98 : decode cX5_enter 98 = .ok (.iconst 3, 1) := by decide +kernel
theorem dX5_enter_99 : decode cX5_enter 99 = .ok (.iaload, 1) := by decide +kernel
theorem dX5_enter_100 : decode cX5_enter 100 = .ok (.invokevirtual 150, 3) := by decide +kernel
theorem dX5_enter_103 : decode cX5_enter 103 = .ok (.ireturn, 1) := by decide +kernel
set_option maxRecDepth 20000 in
theorem ggX5_callIn_X5_isJudge : GoodIn wsX5_callIn wsX5_isJudge := goodIn_r _ [10, 3, 11, 12, 13, 14, 15, 16, 17, 18, 9, 19, 72, 73, 74, 75, 76, 77, 78, 79, 80, 81, 82, 83, 84, 85, 86, 87, 88, 89, 90, 91, 92, 93, 94] (by decide +kernel) (by decide +kernel)
set_option maxRecDepth 20000 in
theorem gX5_callIn_X5_isJudge : GoodIn wsX5_callIn (wsV RX5 104 RX5 yX5_isJudge wsX5_isJudge) := goodIn_app (goodIn_of _ (by decide +kernel)) ggX5_callIn_X5_isJudge
set_option maxRecDepth 20000 in
theorem ggX5_callIn_X5_isBook : GoodIn wsX5_callIn wsX5_isBook := goodIn_r _ [23, 24, 11, 12, 13, 14, 15, 16, 17, 18, 9, 19, 72, 73, 74, 75, 76, 77, 78, 79, 80, 81, 82, 83, 84, 85, 86, 87, 88, 89, 90, 91, 92, 93, 94] (by decide +kernel) (by decide +kernel)
set_option maxRecDepth 20000 in
theorem gX5_callIn_X5_isBook : GoodIn wsX5_callIn (wsV RX5 141 RX5 yX5_isBook wsX5_isBook) := goodIn_app (goodIn_of _ (by decide +kernel)) ggX5_callIn_X5_isBook
set_option maxRecDepth 20000 in
theorem ggX5_callIn_X5_refuse : GoodIn wsX5_callIn wsX5_refuse := goodIn_r _ [28, 1, 72, 73, 74, 75, 76, 77, 78, 79, 80, 81, 82, 83, 84, 85, 86, 87, 88, 89, 90, 91] (by decide +kernel) (by decide +kernel)
set_option maxRecDepth 20000 in
theorem gX5_callIn_X5_refuse : GoodIn wsX5_callIn (wsV RX5 86 RX5 yX5_refuse wsX5_refuse) := goodIn_app (goodIn_of _ (by decide +kernel)) ggX5_callIn_X5_refuse
set_option maxRecDepth 20000 in
theorem ggX5_callIn_X5_isEntered : GoodIn wsX5_callIn wsX5_isEntered := goodIn_r _ [32, 24, 4, 33, 34, 35, 36, 14, 37, 16, 38, 39, 40, 41, 42, 43, 44, 45, 46, 47, 48, 49, 50, 72, 73, 74, 75, 76, 77, 78, 79, 80, 81, 82, 83, 84, 85, 86, 87, 88, 89, 90, 91, 92, 93, 94] (by decide +kernel) (by decide +kernel)
set_option maxRecDepth 20000 in
theorem gX5_callIn_X5_isEntered : GoodIn wsX5_callIn (wsV RX5 131 RX5 yX5_isEntered wsX5_isEntered) := goodIn_app (goodIn_of _ (by decide +kernel)) ggX5_callIn_X5_isEntered
set_option maxRecDepth 20000 in
theorem ggX5_callIn_X5_isEligible : GoodIn wsX5_callIn wsX5_isEligible := goodIn_r _ [54, 24, 4, 33, 5, 34, 35, 36, 14, 37, 16, 38, 39, 40, 41, 42, 43, 44, 45, 46, 47, 48, 49, 50, 17, 18, 9, 19, 72, 73, 74, 75, 76, 77, 78, 79, 80, 81, 82, 83, 84, 85, 86, 87, 88, 89, 90, 91, 92, 93, 94] (by decide +kernel) (by decide +kernel)
set_option maxRecDepth 20000 in
theorem gX5_callIn_X5_isEligible : GoodIn wsX5_callIn (wsV RX5 144 RX5 yX5_isEligible wsX5_isEligible) := goodIn_app (goodIn_of _ (by decide +kernel)) ggX5_callIn_X5_isEligible
set_option maxRecDepth 20000 in
theorem ggX5_callIn_Jx4a65c_get_915e3 : GoodIn wsX5_callIn wsJx4a65c_get_915e3 := goodIn_r _ [37, 16, 38, 39, 40, 41, 42, 43, 44, 45, 46, 47, 48, 14, 49, 50, 92, 93, 94] (by decide +kernel) (by decide +kernel)
set_option maxRecDepth 20000 in
theorem gX5_callIn_Jx4a65c_get_915e3 : GoodIn wsX5_callIn (wsV RX5 107 RJx4a65c yJx4a65c_get_915e3 wsJx4a65c_get_915e3) := goodIn_app (goodIn_of _ (by decide +kernel)) ggX5_callIn_Jx4a65c_get_915e3
set_option maxRecDepth 20000 in
theorem ggX5_callIn_X5_isConflict : GoodIn wsX5_callIn wsX5_isConflict := goodIn_r _ [58, 3, 4, 24, 34, 35, 36, 14, 37, 16, 38, 39, 40, 41, 42, 43, 44, 45, 46, 47, 48, 49, 50, 72, 73, 74, 75, 76, 77, 78, 79, 80, 81, 82, 83, 84, 85, 86, 87, 88, 89, 90, 91, 92, 93, 94] (by decide +kernel) (by decide +kernel)
set_option maxRecDepth 20000 in
theorem gX5_callIn_X5_isConflict : GoodIn wsX5_callIn (wsV RX5 153 RX5 yX5_isConflict wsX5_isConflict) := goodIn_app (goodIn_of _ (by decide +kernel)) ggX5_callIn_X5_isConflict
set_option maxRecDepth 20000 in
theorem ggX5_callIn_X5_enterNow : GoodIn wsX5_callIn wsX5_enterNow := goodIn_r _ [62, 24, 4, 33, 34, 35, 36, 14, 37, 16, 38, 39, 40, 41, 42, 43, 44, 45, 46, 47, 48, 49, 50, 63, 64, 65, 9, 66, 67, 68, 69, 70, 71, 11, 12, 13, 15, 29, 30, 31, 32, 72, 73, 74, 75, 76, 77, 78, 79, 80, 81, 82, 83, 84, 85, 86, 87, 88, 89, 90, 91, 92, 93, 94] (by decide +kernel) (by decide +kernel)
set_option maxRecDepth 20000 in
theorem gX5_callIn_X5_enterNow : GoodIn wsX5_callIn (wsV RX5 150 RX5 yX5_enterNow wsX5_enterNow) := goodIn_app (goodIn_of _ (by decide +kernel)) ggX5_callIn_X5_enterNow
theorem dX5_callIn_0 : decode cX5_callIn 0 = .ok (.aload_n 0, 1) := by decide +kernel
theorem dX5_callIn_1 : decode cX5_callIn 1 = .ok (.iconst 0, 1) := by decide +kernel
theorem dX5_callIn_2 : decode cX5_callIn 2 = .ok (.putfield 50, 3) := by decide +kernel
theorem dX5_callIn_5 : decode cX5_callIn 5 = .ok (.aload_n 0, 1) := by decide +kernel
theorem dX5_callIn_6 : decode cX5_callIn 6 = .ok (.iload_n 1, 1) := by decide +kernel
theorem dX5_callIn_7 : decode cX5_callIn 7 = .ok (.invokevirtual 104, 3) := by decide +kernel
theorem dX5_callIn_10 : decode cX5_callIn 10 = .ok (.ifCond .eq 11, 3) := by decide +kernel
theorem dX5_callIn_13 : decode cX5_callIn 13 = .ok (.aload_n 0, 1) := by decide +kernel
theorem dX5_callIn_14 : decode cX5_callIn 14 = .ok (.iload_n 2, 1) := by decide +kernel
theorem dX5_callIn_15 : decode cX5_callIn 15 = .ok (.invokevirtual 141, 3) := by decide +kernel
theorem dX5_callIn_18 : decode cX5_callIn 18 = .ok (.ifCond .ne 9, 3) := by decide +kernel
theorem dX5_callIn_21 : decode cX5_callIn 21 = .ok (.aload_n 0, 1) := by decide +kernel
theorem dX5_callIn_22 : decode cX5_callIn 22 = .ok (.iconst 1, 1) := by decide +kernel
theorem dX5_callIn_23 : decode cX5_callIn 23 = .ok (.invokevirtual 86, 3) := by decide +kernel
theorem dX5_callIn_26 : decode cX5_callIn 26 = .ok (.ireturn, 1) := by decide +kernel
theorem dX5_callIn_27 : decode cX5_callIn 27 = .ok (.aload_n 0, 1) := by decide +kernel
theorem dX5_callIn_28 : decode cX5_callIn 28 = .ok (.getfield 101, 3) := by decide +kernel
theorem dX5_callIn_31 : decode cX5_callIn 31 = .ok (.ifCond .ne 11, 3) := by decide +kernel
theorem dX5_callIn_34 : decode cX5_callIn 34 = .ok (.aload_n 0, 1) := by decide +kernel
theorem dX5_callIn_35 : decode cX5_callIn 35 = .ok (.iload_n 2, 1) := by decide +kernel
theorem dX5_callIn_36 : decode cX5_callIn 36 = .ok (.invokevirtual 131, 3) := by decide +kernel
theorem dX5_callIn_39 : decode cX5_callIn 39 = .ok (.ifCond .eq 9, 3) := by decide +kernel
theorem dX5_callIn_42 : decode cX5_callIn 42 = .ok (.aload_n 0, 1) := by decide +kernel
theorem dX5_callIn_43 : decode cX5_callIn 43 = .ok (.iconst 2, 1) := by decide +kernel
theorem dX5_callIn_44 : decode cX5_callIn 44 = .ok (.invokevirtual 86, 3) := by decide +kernel
theorem dX5_callIn_47 : decode cX5_callIn 47 = .ok (.ireturn, 1) := by decide +kernel
theorem dX5_callIn_48 : decode cX5_callIn 48 = .ok (.aload_n 0, 1) := by decide +kernel
theorem dX5_callIn_49 : decode cX5_callIn 49 = .ok (.iload_n 2, 1) := by decide +kernel
theorem dX5_callIn_50 : decode cX5_callIn 50 = .ok (.invokevirtual 144, 3) := by decide +kernel
theorem dX5_callIn_53 : decode cX5_callIn 53 = .ok (.ifCond .ne 6, 3) := by decide +kernel
theorem dX5_callIn_56 : decode cX5_callIn 56 = .ok (.bipush (-2), 2) := by decide +kernel
theorem dX5_callIn_58 : decode cX5_callIn 58 = .ok (.ireturn, 1) := by decide +kernel
theorem dX5_callIn_59 : decode cX5_callIn 59 = .ok (.aload_n 0, 1) := by decide +kernel
theorem dX5_callIn_60 : decode cX5_callIn 60 = .ok (.getfield 19, 3) := by decide +kernel
theorem dX5_callIn_63 : decode cX5_callIn 63 = .ok (.iload_n 1, 1) := by decide +kernel
theorem dX5_callIn_64 : decode cX5_callIn 64 = .ok (.invokevirtual 107, 3) := by decide +kernel
theorem dX5_callIn_67 : decode cX5_callIn 67 = .ok (.checkcast 76, 3) := by decide +kernel
theorem dX5_callIn_70 : decode cX5_callIn 70 = .ok (.iconst 4, 1) := by decide +kernel
theorem dX5_callIn_71 : decode cX5_callIn 71 = .ok (.iaload, 1) := by decide +kernel
theorem dX5_callIn_72 : decode cX5_callIn 72 = .ok (.iconst 1, 1) := by decide +kernel
theorem dX5_callIn_73 : decode cX5_callIn 73 = .ok (.if_icmp .eq 12, 3) := by decide +kernel
theorem dX5_callIn_76 : decode cX5_callIn 76 = .ok (.aload_n 0, 1) := by decide +kernel
theorem dX5_callIn_77 : decode cX5_callIn 77 = .ok (.iload_n 1, 1) := by decide +kernel
theorem dX5_callIn_78 : decode cX5_callIn 78 = .ok (.iload_n 2, 1) := by decide +kernel
theorem dX5_callIn_79 : decode cX5_callIn 79 = .ok (.invokevirtual 153, 3) := by decide +kernel
theorem dX5_callIn_82 : decode cX5_callIn 82 = .ok (.ifCond .eq 6, 3) := by decide +kernel
theorem dX5_callIn_85 : decode cX5_callIn 85 = .ok (.bipush (-3), 2) := by decide +kernel
theorem dX5_callIn_87 : decode cX5_callIn 87 = .ok (.ireturn, 1) := by decide +kernel
theorem dX5_callIn_88 : decode cX5_callIn 88 = .ok (.aload_n 0, 1) := by decide +kernel
theorem dX5_callIn_89 : decode cX5_callIn 89 = .ok (.getfield 19, 3) := by decide +kernel
theorem dX5_callIn_92 : decode cX5_callIn 92 = .ok (.iload_n 1, 1) := by decide +kernel
theorem dX5_callIn_93 : decode cX5_callIn 93 = .ok (.invokevirtual 107, 3) := by decide +kernel
theorem dX5_callIn_96 : decode cX5_callIn 96 = .ok (.checkcast 76, 3) := by decide +kernel
theorem dX5_callIn_99 : decode cX5_callIn 99 = .ok (.iconst 4, 1) := by decide +kernel
theorem dX5_callIn_100 : decode cX5_callIn 100 = .ok (.iconst 1, 1) := by decide +kernel
theorem dX5_callIn_101 : decode cX5_callIn 101 = .ok (.iastore, 1) := by decide +kernel
theorem dX5_callIn_102 : decode cX5_callIn 102 = .ok (.aload_n 0, 1) := by decide +kernel
theorem dX5_callIn_103 : decode cX5_callIn 103 = .ok (.iload_n 2, 1) := by decide +kernel
theorem dX5_callIn_104 : decode cX5_callIn 104 = .ok (.aload_n 0, 1) := by decide +kernel
theorem dX5_callIn_105 : decode cX5_callIn 105 = .ok (.getfield 22, 3) := by decide +kernel
theorem dX5_callIn_108 : decode cX5_callIn 108 = .ok (.iconst 3, 1) := by decide +kernel
theorem dX5_callIn_109 : decode cX5_callIn 109 = .ok (.iaload, 1) := by decide +kernel
theorem dX5_callIn_110 : decode cX5_callIn 110 = .ok (.iconst 2, 1) := by decide +kernel
theorem dX5_callIn_111 : decode cX5_callIn 111 = .ok (.idiv, 1) := by decide +kernel
theorem dX5_callIn_112 : decode cX5_callIn 112 = .ok (.invokevirtual 150, 3) := by decide +kernel
theorem dX5_callIn_115 : decode cX5_callIn 115 = .ok (.ireturn, 1) := by decide +kernel
set_option maxRecDepth 20000 in
theorem ggX5_pagesOf_Jx4a65c_get_915e3 : GoodIn wsX5_pagesOf wsJx4a65c_get_915e3 := goodIn_r _ [10, 11, 12, 13, 14, 15, 16, 17, 18, 19, 20, 21, 22, 9, 23, 24, 83, 84, 85] (by decide +kernel) (by decide +kernel)
set_option maxRecDepth 20000 in
theorem gX5_pagesOf_Jx4a65c_get_915e3 : GoodIn wsX5_pagesOf (wsV RX5 107 RJx4a65c yJx4a65c_get_915e3 wsJx4a65c_get_915e3) := goodIn_app (goodIn_of _ (by decide +kernel)) ggX5_pagesOf_Jx4a65c_get_915e3
set_option maxRecDepth 20000 in
theorem ggX5_pagesOf_Jx4a65c_iterator_32c93 : GoodIn wsX5_pagesOf wsJx4a65c_iterator_32c93 := goodIn_r _ [28, 29, 30, 31, 32, 33, 34, 35, 36, 37, 38, 39, 40, 41, 42, 86, 87, 88, 89, 83, 84, 85] (by decide +kernel) (by decide +kernel)
set_option maxRecDepth 20000 in
theorem gX5_pagesOf_Jx4a65c_iterator_32c93 : GoodIn wsX5_pagesOf (wsV RX5 61 RJx4a65c yJx4a65c_iterator_32c93 wsJx4a65c_iterator_32c93) := goodIn_app (goodIn_of _ (by decide +kernel)) ggX5_pagesOf_Jx4a65c_iterator_32c93
set_option maxRecDepth 20000 in
theorem ggX5_pagesOf_Jx35411_hasNext_aae02 : GoodIn wsX5_pagesOf wsJx35411_hasNext_aae02 := goodIn_r _ [46, 47, 35, 86, 87, 88, 89, 83, 84, 85] (by decide +kernel) (by decide +kernel)
set_option maxRecDepth 20000 in
theorem gX5_pagesOf_Jx35411_hasNext_aae02_f65Jx35411 : GoodIn wsX5_pagesOf (va_wsF RX5 65 RJx35411 ⟨"java/util/Iterator", "hasNext", "()Z"⟩ yJx35411_hasNext_aae02 wsJx35411_hasNext_aae02) := goodIn_app (goodIn_of _ (by decide +kernel)) ggX5_pagesOf_Jx35411_hasNext_aae02
set_option maxRecDepth 20000 in
theorem ggX5_pagesOf_Jx35411_next_0502b : GoodIn wsX5_pagesOf wsJx35411_next_0502b := goodIn_r _ [51, 47, 35, 52, 39, 53, 54, 55, 31, 56, 40, 41, 42, 86, 87, 88, 89, 83, 84, 85] (by decide +kernel) (by decide +kernel)
set_option maxRecDepth 20000 in
theorem gX5_pagesOf_Jx35411_next_0502b_f71Jx35411 : GoodIn wsX5_pagesOf (va_wsF RX5 71 RJx35411 ⟨"java/util/Iterator", "next", "()Ljava/lang/Object;"⟩ yJx35411_next_0502b wsJx35411_next_0502b) := goodIn_app (goodIn_of _ (by decide +kernel)) ggX5_pagesOf_Jx35411_next_0502b
set_option maxRecDepth 20000 in
theorem ggX5_pagesOf_J6_intValue_8abf5 : GoodIn wsX5_pagesOf wsJ6_intValue_8abf5 := goodIn_r _ [61, 62, 90] (by decide +kernel) (by decide +kernel)
set_option maxRecDepth 20000 in
theorem gX5_pagesOf_J6_intValue_8abf5 : GoodIn wsX5_pagesOf (wsV RX5 157 RJ6 yJ6_intValue_8abf5 wsJ6_intValue_8abf5) := goodIn_app (goodIn_of _ (by decide +kernel)) ggX5_pagesOf_J6_intValue_8abf5
theorem dX5_pagesOf_0 : decode cX5_pagesOf 0 = .ok (.iconst 0, 1) := by decide +kernel
theorem dX5_pagesOf_1 : decode cX5_pagesOf 1 = .ok (.istore_n 2, 1) := by decide +kernel
theorem dX5_pagesOf_2 : decode cX5_pagesOf 2 = .ok (.aload_n 0, 1) := by decide +kernel
theorem dX5_pagesOf_3 : decode cX5_pagesOf 3 = .ok (.getfield 29, 3) := by decide +kernel
theorem dX5_pagesOf_6 : decode cX5_pagesOf 6 = .ok (.iload_n 1, 1) := by decide +kernel
theorem dX5_pagesOf_7 : decode cX5_pagesOf 7 = .ok (.invokevirtual 107, 3) := by decide +kernel
theorem dX5_pagesOf_10 : decode cX5_pagesOf 10 = .ok (.checkcast 7, 3) := by decide +kernel
theorem dX5_pagesOf_13 : decode cX5_pagesOf 13 = .ok (.invokevirtual 61, 3) := by decide +kernel
theorem dX5_pagesOf_16 : decode cX5_pagesOf 16 = .ok (.astore_n 3, 1) := by decide +kernel
theorem dX5_pagesOf_17 : decode cX5_pagesOf 17 = .ok (.aload_n 3, 1) := by decide +kernel
theorem dX5_pagesOf_18 : decode cX5_pagesOf 18 = .ok (.invokeinterface 65 1, 5) := by decide +kernel
theorem dX5_pagesOf_23 : decode cX5_pagesOf 23 = .ok (.ifCond .eq 37, 3) := by decide +kernel
theorem dX5_pagesOf_26 : decode cX5_pagesOf 26 = .ok (.aload_n 3, 1) := by decide +kernel
theorem dX5_pagesOf_27 : decode cX5_pagesOf 27 = .ok (.invokeinterface 71 1, 5) := by decide +kernel
theorem dX5_pagesOf_32 : decode cX5_pagesOf 32 = .ok (.checkcast 112, 3) := by decide +kernel
theorem dX5_pagesOf_35 : decode cX5_pagesOf 35 = .ok (.invokevirtual 157, 3) := by decide +kernel
theorem dX5_pagesOf_38 : decode cX5_pagesOf 38 = .ok (.istore 4, 2) := by decide +kernel
theorem dX5_pagesOf_40 : decode cX5_pagesOf 40 = .ok (.iload_n 2, 1) := by decide +kernel
theorem dX5_pagesOf_41 : decode cX5_pagesOf 41 = .ok (.aload_n 0, 1) := by decide +kernel
theorem dX5_pagesOf_42 : decode cX5_pagesOf 42 = .ok (.getfield 16, 3) := by decide +kernel
theorem dX5_pagesOf_45 : decode cX5_pagesOf 45 = .ok (.iload 4, 2) := by decide +kernel
theorem dX5_pagesOf_47 : decode cX5_pagesOf 47 = .ok (.invokevirtual 107, 3) := by decide +kernel
theorem dX5_pagesOf_50 : decode cX5_pagesOf 50 = .ok (.checkcast 76, 3) := by decide +kernel
theorem dX5_pagesOf_53 : decode cX5_pagesOf 53 = .ok (.iconst 3, 1) := by decide +kernel
theorem dX5_pagesOf_54 : decode cX5_pagesOf 54 = .ok (.iaload, 1) := by decide +kernel
theorem dX5_pagesOf_55 : decode cX5_pagesOf 55 = .ok (.iadd, 1) := by decide +kernel
theorem dX5_pagesOf_56 : decode cX5_pagesOf 56 = .ok (.istore_n 2, 1) := by decide +kernel
theorem dX5_pagesOf_57 : decode cX5_pagesOf 57 = .ok (.goto (-40), 3) := by decide +kernel
theorem dX5_pagesOf_60 : decode cX5_pagesOf 60 = .ok (.iload_n 2, 1) := by decide +kernel
theorem dX5_pagesOf_61 : decode cX5_pagesOf 61 = .ok (.ireturn, 1) := by decide +kernel
set_option maxRecDepth 20000 in
theorem ggX5_read_Jx4a65c_size_8abf5 : GoodIn wsX5_read wsJx4a65c_size_8abf5 := goodIn_r _ [11, 12, 185, 186, 187] (by decide +kernel) (by decide +kernel)
set_option maxRecDepth 20000 in
theorem gX5_read_Jx4a65c_size_8abf5 : GoodIn wsX5_read (wsV RX5 53 RJx4a65c yJx4a65c_size_8abf5 wsJx4a65c_size_8abf5) := goodIn_app (goodIn_of _ (by decide +kernel)) ggX5_read_Jx4a65c_size_8abf5
set_option maxRecDepth 20000 in
theorem ggX5_read_X5_entered : GoodIn wsX5_read wsX5_entered := goodIn_r _ [17, 4, 7, 8, 9, 10, 11, 12, 18, 19, 20, 16, 21, 22, 23, 24, 25, 26, 27, 28, 29, 30, 31, 32, 33, 34, 35, 36, 37, 38, 39, 40, 165, 166, 167, 168, 169, 170, 171, 172, 173, 174, 175, 176, 177, 178, 179, 180, 181, 182, 183, 184, 185, 186, 187] (by decide +kernel) (by decide +kernel)
set_option maxRecDepth 20000 in
theorem gX5_read_X5_entered : GoodIn wsX5_read (wsV RX5 138 RX5 yX5_entered wsX5_entered) := goodIn_app (goodIn_of _ (by decide +kernel)) ggX5_read_X5_entered
set_option maxRecDepth 20000 in
theorem ggX5_read_X5_refuse : GoodIn wsX5_read wsX5_refuse := goodIn_r _ [44, 1, 165, 166, 167, 168, 169, 170, 171, 172, 173, 174, 175, 176, 177, 178, 179, 180, 181, 182, 183, 184] (by decide +kernel) (by decide +kernel)
set_option maxRecDepth 20000 in
theorem gX5_read_X5_refuse : GoodIn wsX5_read (wsV RX5 86 RX5 yX5_refuse wsX5_refuse) := goodIn_app (goodIn_of _ (by decide +kernel)) ggX5_read_X5_refuse
set_option maxRecDepth 20000 in
theorem ggX5_read_X5_isEntered : GoodIn wsX5_read wsX5_isEntered := goodIn_r _ [21, 4, 22, 23, 24, 25, 26, 10, 27, 12, 28, 29, 30, 31, 32, 33, 34, 35, 36, 37, 38, 39, 40, 165, 166, 167, 168, 169, 170, 171, 172, 173, 174, 175, 176, 177, 178, 179, 180, 181, 182, 183, 184, 185, 186, 187] (by decide +kernel) (by decide +kernel)
set_option maxRecDepth 20000 in
theorem gX5_read_X5_isEntered : GoodIn wsX5_read (wsV RX5 131 RX5 yX5_isEntered wsX5_isEntered) := goodIn_app (goodIn_of _ (by decide +kernel)) ggX5_read_X5_isEntered
set_option maxRecDepth 20000 in
theorem ggX5_read_X5_isConflict : GoodIn wsX5_read wsX5_isConflict := goodIn_r _ [48, 3, 22, 4, 24, 25, 26, 10, 27, 12, 28, 29, 30, 31, 32, 33, 34, 35, 36, 37, 38, 39, 40, 165, 166, 167, 168, 169, 170, 171, 172, 173, 174, 175, 176, 177, 178, 179, 180, 181, 182, 183, 184, 185, 186, 187] (by decide +kernel) (by decide +kernel)
set_option maxRecDepth 20000 in
theorem gX5_read_X5_isConflict : GoodIn wsX5_read (wsV RX5 153 RX5 yX5_isConflict wsX5_isConflict) := goodIn_app (goodIn_of _ (by decide +kernel)) ggX5_read_X5_isConflict
set_option maxRecDepth 20000 in
theorem ggX5_read_X5_pagesOf : GoodIn wsX5_read wsX5_pagesOf := goodIn_r _ [52, 5, 6, 53, 4, 22, 24, 25, 26, 10, 27, 12, 28, 29, 30, 31, 32, 33, 34, 35, 36, 37, 38, 39, 40, 54, 55, 56, 57, 58, 59, 60, 61, 62, 63, 64, 65, 66, 67, 68, 69, 70, 71, 72, 73, 74, 75, 76, 77, 78, 79, 80, 81, 82, 83, 84, 85, 86, 87, 88, 89, 90, 91, 165, 166, 167, 168, 169, 170, 171, 172, 173, 174, 175, 176, 177, 178, 179, 180, 181, 182, 183, 184, 185, 186, 187, 188, 189, 190, 191, 192] (by decide +kernel) (by decide +kernel)
set_option maxRecDepth 20000 in
theorem gX5_read_X5_pagesOf : GoodIn wsX5_read (wsV RX5 160 RX5 yX5_pagesOf wsX5_pagesOf) := goodIn_app (goodIn_of _ (by decide +kernel)) ggX5_read_X5_pagesOf
set_option maxRecDepth 20000 in
theorem ggX5_read_Jx4a65c_get_915e3 : GoodIn wsX5_read wsJx4a65c_get_915e3 := goodIn_r _ [27, 12, 28, 29, 30, 31, 32, 33, 34, 35, 36, 37, 38, 10, 39, 40, 185, 186, 187] (by decide +kernel) (by decide +kernel)
set_option maxRecDepth 20000 in
theorem gX5_read_Jx4a65c_get_915e3 : GoodIn wsX5_read (wsV RX5 107 RJx4a65c yJx4a65c_get_915e3 wsJx4a65c_get_915e3) := goodIn_app (goodIn_of _ (by decide +kernel)) ggX5_read_Jx4a65c_get_915e3
set_option maxRecDepth 20000 in
theorem ggX5_read_J6_valueOf_2dffe : GoodIn wsX5_read wsJ6_valueOf_2dffe := goodIn_r _ [94, 95, 96, 97, 98, 89, 99, 100, 101, 91, 102, 103, 104, 105, 106, 66, 67, 192] (by decide +kernel) (by decide +kernel)
set_option maxRecDepth 20000 in
theorem gX5_read_J6_valueOf_2dffe : GoodIn wsX5_read (va_wsS RX5 163 yJ6_valueOf_2dffe wsJ6_valueOf_2dffe) := goodIn_app (goodIn_of _ (by decide +kernel)) ggX5_read_J6_valueOf_2dffe
set_option maxRecDepth 20000 in
theorem ggX5_read_Jx4a65c_add_9ea2d : GoodIn wsX5_read wsJx4a65c_add_9ea2d := goodIn_r _ [110, 111, 70, 40, 12, 112, 113, 114, 10, 115, 116, 117, 118, 119, 120, 121, 122, 123, 124, 125, 126, 127, 128, 129, 130, 131, 132, 133, 134, 135, 136, 137, 138, 139, 140, 141, 142, 143, 144, 145, 146, 147, 148, 149, 150, 151, 152, 153, 154, 155, 156, 157, 158, 185, 186, 187] (by decide +kernel) (by decide +kernel)
set_option maxRecDepth 20000 in
theorem gX5_read_Jx4a65c_add_9ea2d : GoodIn wsX5_read (wsV RX5 90 RJx4a65c yJx4a65c_add_9ea2d wsJx4a65c_add_9ea2d) := goodIn_app (goodIn_of _ (by decide +kernel)) ggX5_read_Jx4a65c_add_9ea2d
set_option maxRecDepth 20000 in
theorem ggX5_read_J6_bitCount_0f7a4 : GoodIn wsX5_read wsJ6_bitCount_0f7a4 := goodIn_r _ [161, 162, 163, 164] (by decide +kernel) (by decide +kernel)
set_option maxRecDepth 20000 in
theorem gX5_read_J6_bitCount_0f7a4 : GoodIn wsX5_read (va_wsS RX5 111 yJ6_bitCount_0f7a4 wsJ6_bitCount_0f7a4) := goodIn_app (goodIn_of _ (by decide +kernel)) ggX5_read_J6_bitCount_0f7a4
theorem dX5_read_0 : decode cX5_read 0 = .ok (.aload_n 0, 1) := by decide +kernel
theorem dX5_read_1 : decode cX5_read 1 = .ok (.iconst 0, 1) := by decide +kernel
theorem dX5_read_2 : decode cX5_read 2 = .ok (.putfield 50, 3) := by decide +kernel
theorem dX5_read_5 : decode cX5_read 5 = .ok (.aload_n 0, 1) := by decide +kernel
theorem dX5_read_6 : decode cX5_read 6 = .ok (.getfield 101, 3) := by decide +kernel
theorem dX5_read_9 : decode cX5_read 9 = .ok (.ifCond .ne 22, 3) := by decide +kernel
theorem dX5_read_12 : decode cX5_read 12 = .ok (.aload_n 0, 1) := by decide +kernel
theorem dX5_read_13 : decode cX5_read 13 = .ok (.getfield 19, 3) := by decide +kernel
theorem dX5_read_16 : decode cX5_read 16 = .ok (.invokevirtual 53, 3) := by decide +kernel
theorem dX5_read_19 : decode cX5_read 19 = .ok (.iconst 3, 1) := by decide +kernel
theorem dX5_read_20 : decode cX5_read 20 = .ok (.if_icmp .lt 11, 3) := by decide +kernel
theorem dX5_read_23 : decode cX5_read 23 = .ok (.aload_n 0, 1) := by decide +kernel
theorem dX5_read_24 : decode cX5_read 24 = .ok (.invokevirtual 138, 3) := by decide +kernel
theorem dX5_read_27 : decode cX5_read 27 = .ok (.iconst 3, 1) := by decide +kernel
theorem dX5_read_28 : decode cX5_read 28 = .ok (.if_icmp .ge 9, 3) := by decide +kernel
theorem dX5_read_31 : decode cX5_read 31 = .ok (.aload_n 0, 1) := by decide +kernel
theorem dX5_read_32 : decode cX5_read 32 = .ok (.iconst 1, 1) := by decide +kernel
theorem dX5_read_33 : decode cX5_read 33 = .ok (.invokevirtual 86, 3) := by decide +kernel
theorem dX5_read_36 : decode cX5_read 36 = .ok (.ireturn, 1) := by decide +kernel
theorem dX5_read_37 : decode cX5_read 37 = .ok (.iconst 0, 1) := by decide +kernel
theorem dX5_read_38 : decode cX5_read 38 = .ok (.istore_n 1, 1) := by decide +kernel
theorem dX5_read_39 : decode cX5_read 39 = .ok (.iconst 0, 1) := by decide +kernel
theorem dX5_read_40 : decode cX5_read 40 = .ok (.istore_n 2, 1) := by decide +kernel
theorem dX5_read_41 : decode cX5_read 41 = .ok (.iload_n 2, 1) := by decide +kernel
theorem dX5_read_42 : decode cX5_read 42 = .ok (.aload_n 0, 1) := by decide +kernel
theorem dX5_read_43 : decode cX5_read 43 = .ok (.getfield 16, 3) := by decide +kernel
theorem dX5_read_46 : decode cX5_read 46 = .ok (.invokevirtual 53, 3) := by decide +kernel
theorem dX5_read_49 : decode cX5_read 49 = .ok (.if_icmp .ge 180, 3) := by decide +kernel
theorem dX5_read_52 : decode cX5_read 52 = .ok (.aload_n 0, 1) := by decide +kernel
theorem dX5_read_53 : decode cX5_read 53 = .ok (.iload_n 2, 1) := by decide +kernel
theorem dX5_read_54 : decode cX5_read 54 = .ok (.invokevirtual 131, 3) := by decide +kernel
theorem dX5_read_57 : decode cX5_read 57 = .ok (.ifCond .ne 6, 3) := by decide +kernel
theorem dX5_read_60 : decode cX5_read 60 = .ok (.goto 163, 3) := by decide +kernel
theorem dX5_read_63 : decode cX5_read 63 = .ok (.iconst 0, 1) := by decide +kernel
theorem dX5_read_64 : decode cX5_read 64 = .ok (.istore_n 3, 1) := by decide +kernel
theorem dX5_read_65 : decode cX5_read 65 = .ok (.iconst 0, 1) := by decide +kernel
theorem dX5_read_66 : decode cX5_read 66 = .ok (.istore 4, 2) := by decide +kernel
theorem dX5_read_68 : decode cX5_read 68 = .ok (.iload 4, 2) := by decide +kernel
theorem dX5_read_70 : decode cX5_read 70 = .ok (.iconst 3, 1) := by decide +kernel
theorem dX5_read_71 : decode cX5_read 71 = .ok (.if_icmp .ge 94, 3) := by decide +kernel
theorem dX5_read_74 : decode cX5_read 74 = .ok (.iconst (-1), 1) := by decide +kernel
theorem dX5_read_75 : decode cX5_read 75 = .ok (.istore 5, 2) := by decide +kernel
theorem dX5_read_77 : decode cX5_read 77 = .ok (.iconst 0, 1) := by decide +kernel
theorem dX5_read_78 : decode cX5_read 78 = .ok (.istore 6, 2) := by decide +kernel
theorem dX5_read_80 : decode cX5_read 80 = .ok (.iload 6, 2) := by decide +kernel
theorem dX5_read_82 : decode cX5_read 82 = .ok (.aload_n 0, 1) := by decide +kernel
theorem dX5_read_83 : decode cX5_read 83 = .ok (.getfield 19, 3) := by decide +kernel
theorem dX5_read_86 : decode cX5_read 86 = .ok (.invokevirtual 53, 3) := by decide +kernel
theorem dX5_read_89 : decode cX5_read 89 = .ok (.if_icmp .ge 57, 3) := by decide +kernel
theorem dX5_read_92 : decode cX5_read 92 = .ok (.iload_n 3, 1) := by decide +kernel
theorem dX5_read_93 : decode cX5_read 93 = .ok (.iload 6, 2) := by decide +kernel
theorem dX5_read_95 : decode cX5_read 95 = .ok (.ishr, 1) := by decide +kernel
theorem dX5_read_96 : decode cX5_read 96 = .ok (.iconst 1, 1) := by decide +kernel
theorem dX5_read_97 : decode cX5_read 97 = .ok (.iand, 1) := by decide +kernel
theorem dX5_read_98 : decode cX5_read 98 = .ok (.iconst 1, 1) := by decide +kernel
theorem dX5_read_99 : decode cX5_read 99 = .ok (.if_icmp .eq 41, 3) := by decide +kernel
theorem dX5_read_102 : decode cX5_read 102 = .ok (.aload_n 0, 1) := by decide +kernel
theorem dX5_read_103 : decode cX5_read 103 = .ok (.iload 6, 2) := by decide +kernel
theorem dX5_read_105 : decode cX5_read 105 = .ok (.iload_n 2, 1) := by decide +kernel
theorem dX5_read_106 : decode cX5_read 106 = .ok (.invokevirtual 153, 3) := by decide +kernel
theorem dX5_read_109 : decode cX5_read 109 = .ok (.ifCond .eq 6, 3) := by decide +kernel
theorem dX5_read_112 : decode cX5_read 112 = .ok (.goto 28, 3) := by decide +kernel
theorem dX5_read_115 : decode cX5_read 115 = .ok (.iload 5, 2) := by decide +kernel
theorem dX5_read_117 : decode cX5_read 117 = .ok (.iconst (-1), 1) := by decide +kernel
theorem dX5_read_118 : decode cX5_read 118 = .ok (.if_icmp .eq 18, 3) := by decide +kernel
theorem dX5_read_121 : decode cX5_read 121 = .ok (.aload_n 0, 1) := by decide +kernel
theorem dX5_read_122 : decode cX5_read 122 = .ok (.iload 6, 2) := by decide +kernel
theorem dX5_read_124 : decode cX5_read 124 = .ok (.invokevirtual 160, 3) := by decide +kernel
theorem dX5_read_127 : decode cX5_read 127 = .ok (.aload_n 0, 1) := by decide +kernel
theorem dX5_read_128 : decode cX5_read 128 = .ok (.iload 5, 2) := by decide +kernel
theorem dX5_read_130 : decode cX5_read 130 = .ok (.invokevirtual 160, 3) := by decide +kernel
theorem dX5_read_133 : decode cX5_read 133 = .ok (.if_icmp .ge 7, 3) := by decide +kernel
theorem dX5_read_136 : decode cX5_read 136 = .ok (.iload 6, 2) := by decide +kernel
theorem dX5_read_138 : decode cX5_read 138 = .ok (.istore 5, 2) := by decide +kernel
theorem dX5_read_140 : decode cX5_read 140 = .ok (.iinc 6 1, 3) := by decide +kernel
theorem dX5_read_143 : decode cX5_read 143 = .ok (.goto (-63), 3) := by decide +kernel
theorem dX5_read_146 : decode cX5_read 146 = .ok (.iload 5, 2) := by decide +kernel
theorem dX5_read_148 : decode cX5_read 148 = .ok (.iconst (-1), 1) := by decide +kernel
theorem dX5_read_149 : decode cX5_read 149 = .ok (.if_icmp .eq 10, 3) := by decide +kernel
theorem dX5_read_152 : decode cX5_read 152 = .ok (.iload_n 3, 1) := by decide +kernel
theorem dX5_read_153 : decode cX5_read 153 = .ok (.iconst 1, 1) := by decide +kernel
theorem dX5_read_154 : decode cX5_read 154 = .ok (.iload 5, 2) := by decide +kernel
theorem dX5_read_156 : decode cX5_read 156 = .ok (.ishl, 1) := by decide +kernel
theorem dX5_read_157 : decode cX5_read 157 = .ok (.ior, 1) := by decide +kernel
theorem dX5_read_158 : decode cX5_read 158 = .ok (.istore_n 3, 1) := by decide +kernel
theorem dX5_read_159 : decode cX5_read 159 = .ok (.iinc 4 1, 3) := by decide +kernel
theorem dX5_read_162 : decode cX5_read 162 = .ok (.goto (-94), 3) := by decide +kernel
theorem dX5_read_165 : decode cX5_read 165 = .ok (.iconst 0, 1) := by decide +kernel
theorem dX5_read_166 : decode cX5_read 166 = .ok (.istore 4, 2) := by decide +kernel
theorem dX5_read_168 : decode cX5_read 168 = .ok (.iload 4, 2) := by decide +kernel
theorem dX5_read_170 : decode cX5_read 170 = .ok (.aload_n 0, 1) := by decide +kernel
theorem dX5_read_171 : decode cX5_read 171 = .ok (.getfield 19, 3) := by decide +kernel
theorem dX5_read_174 : decode cX5_read 174 = .ok (.invokevirtual 53, 3) := by decide +kernel
theorem dX5_read_177 : decode cX5_read 177 = .ok (.if_icmp .ge 39, 3) := by decide +kernel
theorem dX5_read_180 : decode cX5_read 180 = .ok (.iload_n 3, 1) := by decide +kernel
theorem dX5_read_181 : decode cX5_read 181 = .ok (.iload 4, 2) := by decide +kernel
theorem dX5_read_183 : decode cX5_read 183 = .ok (.ishr, 1) := by decide +kernel
theorem dX5_read_184 : decode cX5_read 184 = .ok (.iconst 1, 1) := by decide +kernel
theorem dX5_read_185 : decode cX5_read 185 = .ok (.iand, 1) := by decide +kernel
theorem dX5_read_186 : decode cX5_read 186 = .ok (.iconst 1, 1) := by decide +kernel
theorem dX5_read_187 : decode cX5_read 187 = .ok (.if_icmp .ne 23, 3) := by decide +kernel
theorem dX5_read_190 : decode cX5_read 190 = .ok (.aload_n 0, 1) := by decide +kernel
theorem dX5_read_191 : decode cX5_read 191 = .ok (.getfield 29, 3) := by decide +kernel
theorem dX5_read_194 : decode cX5_read 194 = .ok (.iload 4, 2) := by decide +kernel
theorem dX5_read_196 : decode cX5_read 196 = .ok (.invokevirtual 107, 3) := by decide +kernel
theorem dX5_read_199 : decode cX5_read 199 = .ok (.checkcast 7, 3) := by decide +kernel
theorem dX5_read_202 : decode cX5_read 202 = .ok (.iload_n 2, 1) := by decide +kernel
theorem dX5_read_203 : decode cX5_read 203 = .ok (.invokestatic 163, 3) := by decide +kernel
theorem dX5_read_206 : decode cX5_read 206 = .ok (.invokevirtual 90, 3) := by decide +kernel
theorem dX5_read_209 : decode cX5_read 209 = .ok (.pop, 1) := by decide +kernel
theorem dX5_read_210 : decode cX5_read 210 = .ok (.iinc 4 1, 3) := by decide +kernel
theorem dX5_read_213 : decode cX5_read 213 = .ok (.goto (-45), 3) := by decide +kernel
theorem dX5_read_216 : decode cX5_read 216 = .ok (.iload_n 1, 1) := by decide +kernel
theorem dX5_read_217 : decode cX5_read 217 = .ok (.iload_n 3, 1) := by decide +kernel
theorem dX5_read_218 : decode cX5_read 218 = .ok (.invokestatic 111, 3) := by decide +kernel
theorem dX5_read_221 : decode cX5_read 221 = .ok (.iadd, 1) := by decide +kernel
theorem dX5_read_222 : decode cX5_read 222 = .ok (.istore_n 1, 1) := by decide +kernel
theorem dX5_read_223 : decode cX5_read 223 = .ok (.iinc 2 1, 3) := by decide +kernel
theorem dX5_read_226 : decode cX5_read 226 = .ok (.goto (-185), 3) := by decide +kernel
theorem dX5_read_229 : decode cX5_read 229 = .ok (.aload_n 0, 1) := by decide +kernel
theorem dX5_read_230 : decode cX5_read 230 = .ok (.iconst 1, 1) := by decide +kernel
theorem dX5_read_231 : decode cX5_read 231 = .ok (.putfield 101, 3) := by decide +kernel
theorem dX5_read_234 : decode cX5_read 234 = .ok (.iload_n 1, 1) := by decide +kernel
theorem dX5_read_235 : decode cX5_read 235 = .ok (.ireturn, 1) := by decide +kernel
set_option maxRecDepth 20000 in
theorem ggX5_print_X5_isBook : GoodIn wsX5_print wsX5_isBook := goodIn_r _ [12, 2, 13, 14, 15, 16, 17, 18, 19, 20, 11, 21, 43, 44, 45, 46, 47, 48, 49, 50, 51, 52, 53, 54, 55, 56, 57, 58, 59, 60, 61, 62, 63, 64, 65] (by decide +kernel) (by decide +kernel)
set_option maxRecDepth 20000 in
theorem gX5_print_X5_isBook : GoodIn wsX5_print (wsV RX5 141 RX5 yX5_isBook wsX5_isBook) := goodIn_app (goodIn_of _ (by decide +kernel)) ggX5_print_X5_isBook
set_option maxRecDepth 20000 in
theorem ggX5_print_X5_refuse : GoodIn wsX5_print wsX5_refuse := goodIn_r _ [25, 1, 43, 44, 45, 46, 47, 48, 49, 50, 51, 52, 53, 54, 55, 56, 57, 58, 59, 60, 61, 62] (by decide +kernel) (by decide +kernel)
set_option maxRecDepth 20000 in
theorem gX5_print_X5_refuse : GoodIn wsX5_print (wsV RX5 86 RX5 yX5_refuse wsX5_refuse) := goodIn_app (goodIn_of _ (by decide +kernel)) ggX5_print_X5_refuse
set_option maxRecDepth 20000 in
theorem ggX5_print_X5_is : GoodIn wsX5_print wsX5_is := goodIn_r _ [21] (by decide +kernel) (by decide +kernel)
set_option maxRecDepth 20000 in
theorem gX5_print_X5_is : GoodIn wsX5_print (va_wsS RX5 57 yX5_is wsX5_is) := goodIn_app (goodIn_of _ (by decide +kernel)) ggX5_print_X5_is
set_option maxRecDepth 20000 in
theorem ggX5_print_Jx4a65c_get_915e3 : GoodIn wsX5_print wsJx4a65c_get_915e3 := goodIn_r _ [29, 18, 30, 31, 32, 33, 34, 35, 36, 37, 38, 39, 40, 16, 41, 42, 63, 64, 65] (by decide +kernel) (by decide +kernel)
set_option maxRecDepth 20000 in
theorem gX5_print_Jx4a65c_get_915e3 : GoodIn wsX5_print (wsV RX5 107 RJx4a65c yJx4a65c_get_915e3 wsJx4a65c_get_915e3) := goodIn_app (goodIn_of _ (by decide +kernel)) ggX5_print_Jx4a65c_get_915e3
theorem dX5_print_0 : decode cX5_print 0 = .ok (.aload_n 0, 1) := by decide +kernel
theorem dX5_print_1 : decode cX5_print 1 = .ok (.iconst 0, 1) := by decide +kernel
theorem dX5_print_2 : decode cX5_print 2 = .ok (.putfield 50, 3) := by decide +kernel
theorem dX5_print_5 : decode cX5_print 5 = .ok (.aload_n 0, 1) := by decide +kernel
theorem dX5_print_6 : decode cX5_print 6 = .ok (.iload_n 1, 1) := by decide +kernel
theorem dX5_print_7 : decode cX5_print 7 = .ok (.invokevirtual 141, 3) := by decide +kernel
theorem dX5_print_10 : decode cX5_print 10 = .ok (.ifCond .ne 9, 3) := by decide +kernel
theorem dX5_print_13 : decode cX5_print 13 = .ok (.aload_n 0, 1) := by decide +kernel
theorem dX5_print_14 : decode cX5_print 14 = .ok (.iconst 1, 1) := by decide +kernel
theorem dX5_print_15 : decode cX5_print 15 = .ok (.invokevirtual 86, 3) := by decide +kernel
theorem dX5_print_18 : decode cX5_print 18 = .ok (.ireturn, 1) := by decide +kernel
theorem dX5_print_19 : decode cX5_print 19 = .ok (.iload_n 2, 1) := by decide +kernel
theorem dX5_print_20 : decode cX5_print 20 = .ok (.iconst 1, 1) := by decide +kernel
theorem dX5_print_21 : decode cX5_print 21 = .ok (.sipush 5000, 3) := by decide +kernel
theorem dX5_print_24 : decode cX5_print 24 = .ok (.invokestatic 57, 3) := by decide +kernel
theorem dX5_print_27 : decode cX5_print 27 = .ok (.ifCond .ne 9, 3) := by decide +kernel
theorem dX5_print_30 : decode cX5_print 30 = .ok (.aload_n 0, 1) := by decide +kernel
theorem dX5_print_31 : decode cX5_print 31 = .ok (.iconst 2, 1) := by decide +kernel
theorem dX5_print_32 : decode cX5_print 32 = .ok (.invokevirtual 86, 3) := by decide +kernel
theorem dX5_print_35 : decode cX5_print 35 = .ok (.ireturn, 1) := by decide +kernel
theorem dX5_print_36 : decode cX5_print 36 = .ok (.aload_n 0, 1) := by decide +kernel
theorem dX5_print_37 : decode cX5_print 37 = .ok (.getfield 16, 3) := by decide +kernel
theorem dX5_print_40 : decode cX5_print 40 = .ok (.iload_n 1, 1) := by decide +kernel
theorem dX5_print_41 : decode cX5_print 41 = .ok (.invokevirtual 107, 3) := by decide +kernel
theorem dX5_print_44 : decode cX5_print 44 = .ok (.checkcast 76, 3) := by decide +kernel
theorem dX5_print_47 : decode cX5_print 47 = .ok (.astore_n 3, 1) := by decide +kernel
theorem dX5_print_48 : decode cX5_print 48 = .ok (.aload_n 3, 1) := by decide +kernel
theorem dX5_print_49 : decode cX5_print 49 = .ok (.bipush 7, 2) := by decide +kernel
theorem dX5_print_51 : decode cX5_print 51 = .ok (.sipush 9999, 3) := by decide +kernel
theorem dX5_print_54 : decode cX5_print 54 = .ok (.aload_n 3, 1) := by decide +kernel
theorem dX5_print_55 : decode cX5_print 55 = .ok (.bipush 7, 2) := by decide +kernel
theorem dX5_print_57 : decode cX5_print 57 = .ok (.iaload, 1) := by decide +kernel
theorem dX5_print_58 : decode cX5_print 58 = .ok (.iload_n 2, 1) := by decide +kernel
theorem dX5_print_59 : decode cX5_print 59 = .ok (.iadd, 1) := by decide +kernel
theorem dX5_print_60 : decode cX5_print 60 = .ok (.invokestatic 125, 3) := by decide +kernel
theorem dX5_print_63 : decode cX5_print 63 = .ok (.iastore, 1) := by decide +kernel
theorem dX5_print_64 : decode cX5_print 64 = .ok (.aload_n 3, 1) := by decide +kernel
theorem dX5_print_65 : decode cX5_print 65 = .ok (.bipush 7, 2) := by decide +kernel
theorem dX5_print_67 : decode cX5_print 67 = .ok (.iaload, 1) := by decide +kernel
theorem dX5_print_68 : decode cX5_print 68 = .ok (.ireturn, 1) := by decide +kernel
set_option maxRecDepth 20000 in
theorem ggX5_left_X5_pagesOf : GoodIn wsX5_left wsX5_pagesOf := goodIn_r _ [7, 8, 9, 10, 11, 2, 12, 13, 14, 15, 16, 17, 18, 19, 20, 21, 22, 23, 24, 25, 26, 27, 28, 29, 30, 31, 32, 33, 34, 35, 36, 37, 38, 39, 40, 41, 42, 43, 44, 45, 46, 47, 48, 49, 50, 51, 52, 53, 54, 55, 56, 57, 58, 59, 60, 61, 62, 63, 64, 65, 66, 67, 68, 69, 70, 71, 72, 73, 74, 75, 76, 77, 78, 79, 80, 81, 82, 83, 84, 85, 86, 87, 88, 89, 90, 91, 92, 93, 94, 95, 96] (by decide +kernel) (by decide +kernel)
set_option maxRecDepth 20000 in
theorem gX5_left_X5_pagesOf : GoodIn wsX5_left (wsV RX5 160 RX5 yX5_pagesOf wsX5_pagesOf) := goodIn_app (goodIn_of _ (by decide +kernel)) ggX5_left_X5_pagesOf
set_option maxRecDepth 20000 in
theorem ggX5_left_Jx4a65c_get_915e3 : GoodIn wsX5_left wsJx4a65c_get_915e3 := goodIn_r _ [16, 17, 18, 19, 20, 21, 22, 23, 24, 25, 26, 27, 28, 15, 29, 30, 89, 90, 91] (by decide +kernel) (by decide +kernel)
set_option maxRecDepth 20000 in
theorem gX5_left_Jx4a65c_get_915e3 : GoodIn wsX5_left (wsV RX5 107 RJx4a65c yJx4a65c_get_915e3 wsJx4a65c_get_915e3) := goodIn_app (goodIn_of _ (by decide +kernel)) ggX5_left_Jx4a65c_get_915e3
theorem dX5_left_0 : decode cX5_left 0 = .ok (.aload_n 0, 1) := by decide +kernel
theorem dX5_left_1 : decode cX5_left 1 = .ok (.iload_n 1, 1) := by decide +kernel
theorem dX5_left_2 : decode cX5_left 2 = .ok (.invokevirtual 160, 3) := by decide +kernel
theorem dX5_left_5 : decode cX5_left 5 = .ok (.aload_n 0, 1) := by decide +kernel
theorem dX5_left_6 : decode cX5_left 6 = .ok (.getfield 19, 3) := by decide +kernel
theorem dX5_left_9 : decode cX5_left 9 = .ok (.iload_n 1, 1) := by decide +kernel
theorem dX5_left_10 : decode cX5_left 10 = .ok (.invokevirtual 107, 3) := by decide +kernel
theorem dX5_left_13 : decode cX5_left 13 = .ok (.checkcast 76, 3) := by decide +kernel
theorem dX5_left_16 : decode cX5_left 16 = .ok (.iconst 5, 1) := by decide +kernel
theorem dX5_left_17 : decode cX5_left 17 = .ok (.iaload, 1) := by decide +kernel
theorem dX5_left_18 : decode cX5_left 18 = .ok (.isub, 1) := by decide +kernel
theorem dX5_left_19 : decode cX5_left 19 = .ok (.ireturn, 1) := by decide +kernel
set_option maxRecDepth 20000 in
theorem ggX5_pace_X5_pagesOf : GoodIn wsX5_pace wsX5_pagesOf := goodIn_r _ [14, 15, 16, 17, 18, 2, 19, 20, 21, 22, 23, 24, 25, 26, 27, 28, 29, 30, 31, 32, 33, 34, 35, 36, 37, 38, 39, 40, 41, 42, 43, 44, 45, 46, 47, 48, 49, 50, 51, 52, 53, 54, 55, 56, 57, 58, 59, 60, 61, 62, 63, 64, 65, 66, 67, 68, 69, 70, 71, 72, 73, 74, 75, 76, 77, 78, 79, 80, 81, 82, 83, 84, 85, 86, 87, 88, 89, 90, 91, 92, 93, 94, 95, 96, 97, 98, 99, 100, 101, 102, 103] (by decide +kernel) (by decide +kernel)
set_option maxRecDepth 20000 in
theorem gX5_pace_X5_pagesOf : GoodIn wsX5_pace (wsV RX5 160 RX5 yX5_pagesOf wsX5_pagesOf) := goodIn_app (goodIn_of _ (by decide +kernel)) ggX5_pace_X5_pagesOf
set_option maxRecDepth 20000 in
theorem ggX5_pace_Jx4a65c_get_915e3 : GoodIn wsX5_pace wsJx4a65c_get_915e3 := goodIn_r _ [23, 24, 25, 26, 27, 28, 29, 30, 31, 32, 33, 34, 35, 22, 36, 37, 96, 97, 98] (by decide +kernel) (by decide +kernel)
set_option maxRecDepth 20000 in
theorem gX5_pace_Jx4a65c_get_915e3 : GoodIn wsX5_pace (wsV RX5 107 RJx4a65c yJx4a65c_get_915e3 wsJx4a65c_get_915e3) := goodIn_app (goodIn_of _ (by decide +kernel)) ggX5_pace_Jx4a65c_get_915e3
theorem dX5_pace_0 : decode cX5_pace 0 = .ok (.aload_n 0, 1) := by decide +kernel
theorem dX5_pace_1 : decode cX5_pace 1 = .ok (.iload_n 1, 1) := by decide +kernel
theorem dX5_pace_2 : decode cX5_pace 2 = .ok (.invokevirtual 160, 3) := by decide +kernel
theorem dX5_pace_5 : decode cX5_pace 5 = .ok (.iload_n 2, 1) := by decide +kernel
theorem dX5_pace_6 : decode cX5_pace 6 = .ok (.isub, 1) := by decide +kernel
theorem dX5_pace_7 : decode cX5_pace 7 = .ok (.bipush 10, 2) := by decide +kernel
theorem dX5_pace_9 : decode cX5_pace 9 = .ok (.aload_n 0, 1) := by decide +kernel
theorem dX5_pace_10 : decode cX5_pace 10 = .ok (.getfield 19, 3) := by decide +kernel
theorem dX5_pace_13 : decode cX5_pace 13 = .ok (.iload_n 1, 1) := by decide +kernel
theorem dX5_pace_14 : decode cX5_pace 14 = .ok (.invokevirtual 107, 3) := by decide +kernel
theorem dX5_pace_17 : decode cX5_pace 17 = .ok (.checkcast 76, 3) := by decide +kernel
theorem dX5_pace_20 : decode cX5_pace 20 = .ok (.iconst 0, 1) := by decide +kernel
theorem dX5_pace_21 : decode cX5_pace 21 = .ok (.iaload, 1) := by decide +kernel
theorem dX5_pace_22 : decode cX5_pace 22 = .ok (.iconst 5, 1) := by decide +kernel
theorem dX5_pace_23 : decode cX5_pace 23 = .ok (.iload_n 2, 1) := by decide +kernel
theorem dX5_pace_24 : decode cX5_pace 24 = .ok (.sipush 500, 3) := by decide +kernel
theorem dX5_pace_27 : decode cX5_pace 27 = .ok (.idiv, 1) := by decide +kernel
theorem dX5_pace_28 : decode cX5_pace 28 = .ok (.imul, 1) := by decide +kernel
theorem dX5_pace_29 : decode cX5_pace 29 = .ok (.isub, 1) := by decide +kernel
theorem dX5_pace_30 : decode cX5_pace 30 = .ok (.invokestatic 167, 3) := by decide +kernel
theorem dX5_pace_33 : decode cX5_pace 33 = .ok (.invokestatic 125, 3) := by decide +kernel
theorem dX5_pace_36 : decode cX5_pace 36 = .ok (.ireturn, 1) := by decide +kernel
set_option maxRecDepth 20000 in
theorem ggX5_ended_Jx4a65c_get_915e3 : GoodIn wsX5_ended wsJx4a65c_get_915e3 := goodIn_r _ [10, 11, 12, 13, 14, 15, 16, 17, 18, 19, 20, 21, 22, 9, 23, 24, 83, 84, 85] (by decide +kernel) (by decide +kernel)
set_option maxRecDepth 20000 in
theorem gX5_ended_Jx4a65c_get_915e3 : GoodIn wsX5_ended (wsV RX5 107 RJx4a65c yJx4a65c_get_915e3 wsJx4a65c_get_915e3) := goodIn_app (goodIn_of _ (by decide +kernel)) ggX5_ended_Jx4a65c_get_915e3
set_option maxRecDepth 20000 in
theorem ggX5_ended_Jx4a65c_iterator_32c93 : GoodIn wsX5_ended wsJx4a65c_iterator_32c93 := goodIn_r _ [28, 29, 30, 31, 32, 33, 34, 35, 36, 37, 38, 39, 40, 41, 42, 86, 87, 88, 89, 83, 84, 85] (by decide +kernel) (by decide +kernel)
set_option maxRecDepth 20000 in
theorem gX5_ended_Jx4a65c_iterator_32c93 : GoodIn wsX5_ended (wsV RX5 61 RJx4a65c yJx4a65c_iterator_32c93 wsJx4a65c_iterator_32c93) := goodIn_app (goodIn_of _ (by decide +kernel)) ggX5_ended_Jx4a65c_iterator_32c93
set_option maxRecDepth 20000 in
theorem ggX5_ended_Jx35411_hasNext_aae02 : GoodIn wsX5_ended wsJx35411_hasNext_aae02 := goodIn_r _ [46, 47, 35, 86, 87, 88, 89, 83, 84, 85] (by decide +kernel) (by decide +kernel)
set_option maxRecDepth 20000 in
theorem gX5_ended_Jx35411_hasNext_aae02_f65Jx35411 : GoodIn wsX5_ended (va_wsF RX5 65 RJx35411 ⟨"java/util/Iterator", "hasNext", "()Z"⟩ yJx35411_hasNext_aae02 wsJx35411_hasNext_aae02) := goodIn_app (goodIn_of _ (by decide +kernel)) ggX5_ended_Jx35411_hasNext_aae02
set_option maxRecDepth 20000 in
theorem ggX5_ended_Jx35411_next_0502b : GoodIn wsX5_ended wsJx35411_next_0502b := goodIn_r _ [51, 47, 35, 52, 39, 53, 54, 55, 31, 56, 40, 41, 42, 86, 87, 88, 89, 83, 84, 85] (by decide +kernel) (by decide +kernel)
set_option maxRecDepth 20000 in
theorem gX5_ended_Jx35411_next_0502b_f71Jx35411 : GoodIn wsX5_ended (va_wsF RX5 71 RJx35411 ⟨"java/util/Iterator", "next", "()Ljava/lang/Object;"⟩ yJx35411_next_0502b wsJx35411_next_0502b) := goodIn_app (goodIn_of _ (by decide +kernel)) ggX5_ended_Jx35411_next_0502b
set_option maxRecDepth 20000 in
theorem ggX5_ended_J6_intValue_8abf5 : GoodIn wsX5_ended wsJ6_intValue_8abf5 := goodIn_r _ [61, 62, 90] (by decide +kernel) (by decide +kernel)
set_option maxRecDepth 20000 in
theorem gX5_ended_J6_intValue_8abf5 : GoodIn wsX5_ended (wsV RX5 157 RJ6 yJ6_intValue_8abf5 wsJ6_intValue_8abf5) := goodIn_app (goodIn_of _ (by decide +kernel)) ggX5_ended_J6_intValue_8abf5
theorem dX5_ended_0 : decode cX5_ended 0 = .ok (.iconst 0, 1) := by decide +kernel
theorem dX5_ended_1 : decode cX5_ended 1 = .ok (.istore_n 3, 1) := by decide +kernel
theorem dX5_ended_2 : decode cX5_ended 2 = .ok (.iconst 0, 1) := by decide +kernel
theorem dX5_ended_3 : decode cX5_ended 3 = .ok (.istore 4, 2) := by decide +kernel
theorem dX5_ended_5 : decode cX5_ended 5 = .ok (.aload_n 0, 1) := by decide +kernel
theorem dX5_ended_6 : decode cX5_ended 6 = .ok (.getfield 29, 3) := by decide +kernel
theorem dX5_ended_9 : decode cX5_ended 9 = .ok (.iload_n 1, 1) := by decide +kernel
theorem dX5_ended_10 : decode cX5_ended 10 = .ok (.invokevirtual 107, 3) := by decide +kernel
theorem dX5_ended_13 : decode cX5_ended 13 = .ok (.checkcast 7, 3) := by decide +kernel
theorem dX5_ended_16 : decode cX5_ended 16 = .ok (.invokevirtual 61, 3) := by decide +kernel
theorem dX5_ended_19 : decode cX5_ended 19 = .ok (.astore 5, 2) := by decide +kernel
theorem dX5_ended_21 : decode cX5_ended 21 = .ok (.aload 5, 2) := by decide +kernel
theorem dX5_ended_23 : decode cX5_ended 23 = .ok (.invokeinterface 65 1, 5) := by decide +kernel
theorem dX5_ended_28 : decode cX5_ended 28 = .ok (.ifCond .eq 54, 3) := by decide +kernel
theorem dX5_ended_31 : decode cX5_ended 31 = .ok (.aload 5, 2) := by decide +kernel
theorem dX5_ended_33 : decode cX5_ended 33 = .ok (.invokeinterface 71 1, 5) := by decide +kernel
theorem dX5_ended_38 : decode cX5_ended 38 = .ok (.checkcast 112, 3) := by decide +kernel
theorem dX5_ended_41 : decode cX5_ended 41 = .ok (.invokevirtual 157, 3) := by decide +kernel
