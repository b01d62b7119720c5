theorem dX5_ended_44 : decode cX5_ended 44 = .ok (.istore 6, 2) := by decide +kernel
theorem dX5_ended_46 : decode cX5_ended 46 = .ok (.iload 4, 2) := by decide +kernel
theorem dX5_ended_48 : decode cX5_ended 48 = .ok (.aload_n 0, 1) := by decide +kernel
theorem dX5_ended_49 : decode cX5_ended 49 = .ok (.getfield 16, 3) := by decide +kernel
theorem dX5_ended_52 : decode cX5_ended 52 = .ok (.iload 6, 2) := by decide +kernel
theorem dX5_ended_54 : decode cX5_ended 54 = .ok (.invokevirtual 107, 3) := by decide +kernel
theorem dX5_ended_57 : decode cX5_ended 57 = .ok (.checkcast 76, 3) := by decide +kernel
theorem dX5_ended_60 : decode cX5_ended 60 = .ok (.iconst 3, 1) := by decide +kernel
theorem dX5_ended_61 : decode cX5_ended 61 = .ok (.iaload, 1) := by decide +kernel
theorem dX5_ended_62 : decode cX5_ended 62 = .ok (.iadd, 1) := by decide +kernel
theorem dX5_ended_63 : decode cX5_ended 63 = .ok (.istore 4, 2) := by decide +kernel
theorem dX5_ended_65 : decode cX5_ended 65 = .ok (.iload_n 3, 1) := by decide +kernel
theorem dX5_ended_66 : decode cX5_ended 66 = .ok (.iload 4, 2) := by decide +kernel
theorem dX5_ended_68 : decode cX5_ended 68 = .ok (.iload_n 2, 1) := by decide +kernel
theorem dX5_ended_69 : decode cX5_ended 69 = .ok (.if_icmp .gt 7, 3) := by decide +kernel
theorem dX5_ended_72 : decode cX5_ended 72 = .ok (.iconst 1, 1) := by decide +kernel
theorem dX5_ended_73 : decode cX5_ended 73 = .ok (.goto 4, 3) := by decide +kernel
theorem dX5_ended_76 : decode cX5_ended 76 = .ok (.iconst 0, 1) := by decide +kernel
theorem dX5_ended_77 : decode cX5_ended 77 = .ok (.iadd, 1) := by decide +kernel
theorem dX5_ended_78 : decode cX5_ended 78 = .ok (.istore_n 3, 1) := by decide +kernel
theorem dX5_ended_79 : decode cX5_ended 79 = .ok (.goto (-58), 3) := by decide +kernel
theorem dX5_ended_82 : decode cX5_ended 82 = .ok (.iload_n 3, 1) := by decide +kernel
theorem dX5_ended_83 : decode cX5_ended 83 = .ok (.ireturn, 1) := by decide +kernel
set_option maxRecDepth 20000 in
theorem ggX5_readDay_Jx4a65c_get_915e3 : GoodIn wsX5_readDay wsJx4a65c_get_915e3 := goodIn_r _ [22, 23, 24, 25, 26, 27, 28, 29, 30, 31, 32, 33, 34, 21, 35, 36, 108, 109, 110] (by decide +kernel) (by decide +kernel)
set_option maxRecDepth 20000 in
theorem gX5_readDay_Jx4a65c_get_915e3 : GoodIn wsX5_readDay (wsV RX5 107 RJx4a65c yJx4a65c_get_915e3 wsJx4a65c_get_915e3) := goodIn_app (goodIn_of _ (by decide +kernel)) ggX5_readDay_Jx4a65c_get_915e3
set_option maxRecDepth 20000 in
theorem ggX5_readDay_X5_ended : GoodIn wsX5_readDay wsX5_ended := goodIn_r _ [41, 3, 4, 5, 6, 2, 18, 19, 20, 21, 22, 23, 24, 25, 26, 27, 28, 29, 30, 31, 32, 33, 34, 35, 36, 42, 43, 44, 45, 46, 47, 48, 49, 50, 51, 52, 53, 54, 55, 56, 57, 58, 59, 60, 61, 62, 63, 64, 65, 66, 67, 68, 69, 70, 71, 72, 73, 74, 75, 76, 77, 78, 79, 88, 89, 90, 91, 92, 93, 94, 95, 96, 97, 98, 99, 100, 101, 102, 103, 104, 105, 106, 107, 108, 109, 110, 111, 112, 113, 114, 115] (by decide +kernel) (by decide +kernel)
set_option maxRecDepth 20000 in
theorem gX5_readDay_X5_ended : GoodIn wsX5_readDay (wsV RX5 170 RX5 yX5_ended wsX5_ended) := goodIn_app (goodIn_of _ (by decide +kernel)) ggX5_readDay_X5_ended
set_option maxRecDepth 20000 in
theorem ggX5_readDay_X5_pace : GoodIn wsX5_readDay wsX5_pace := goodIn_r _ [83, 1, 2, 15, 16, 10, 17, 12, 13, 14, 84, 85, 86, 40, 87, 3, 4, 5, 6, 18, 19, 20, 21, 22, 23, 24, 25, 26, 27, 28, 29, 30, 31, 32, 33, 34, 35, 36, 42, 43, 44, 45, 46, 47, 48, 49, 50, 51, 52, 53, 54, 55, 56, 57, 58, 59, 60, 61, 62, 63, 64, 65, 66, 67, 68, 69, 70, 71, 72, 73, 74, 75, 76, 77, 78, 79, 88, 89, 90, 91, 92, 93, 94, 95, 96, 97, 98, 99, 100, 101, 102, 103, 104, 105, 106, 107, 108, 109, 110, 111, 112, 113, 114, 115] (by decide +kernel) (by decide +kernel)
set_option maxRecDepth 20000 in
theorem gX5_readDay_X5_pace : GoodIn wsX5_readDay (wsV RX5 173 RX5 yX5_pace wsX5_pace) := goodIn_app (goodIn_of _ (by decide +kernel)) ggX5_readDay_X5_pace
set_option maxRecDepth 20000 in
theorem ggX5_readDay_J6_intValue_8abf5 : GoodIn wsX5_readDay wsJ6_intValue_8abf5 := goodIn_r _ [78, 79, 115] (by decide +kernel) (by decide +kernel)
set_option maxRecDepth 20000 in
theorem gX5_readDay_J6_intValue_8abf5 : GoodIn wsX5_readDay (wsV RX5 157 RJ6 yJ6_intValue_8abf5 wsJ6_intValue_8abf5) := goodIn_app (goodIn_of _ (by decide +kernel)) ggX5_readDay_J6_intValue_8abf5
theorem dX5_readDay_0 : decode cX5_readDay 0 = .ok (.aload_n 0, 1) := by decide +kernel
theorem dX5_readDay_1 : decode cX5_readDay 1 = .ok (.getfield 19, 3) := by decide +kernel
theorem dX5_readDay_4 : decode cX5_readDay 4 = .ok (.iload_n 1, 1) := by decide +kernel
theorem dX5_readDay_5 : decode cX5_readDay 5 = .ok (.invokevirtual 107, 3) := by decide +kernel
theorem dX5_readDay_8 : decode cX5_readDay 8 = .ok (.checkcast 76, 3) := by decide +kernel
theorem dX5_readDay_11 : decode cX5_readDay 11 = .ok (.astore_n 2, 1) := by decide +kernel
theorem dX5_readDay_12 : decode cX5_readDay 12 = .ok (.aload_n 0, 1) := by decide +kernel
theorem dX5_readDay_13 : decode cX5_readDay 13 = .ok (.iload_n 1, 1) := by decide +kernel
theorem dX5_readDay_14 : decode cX5_readDay 14 = .ok (.aload_n 2, 1) := by decide +kernel
theorem dX5_readDay_15 : decode cX5_readDay 15 = .ok (.iconst 5, 1) := by decide +kernel
theorem dX5_readDay_16 : decode cX5_readDay 16 = .ok (.iaload, 1) := by decide +kernel
theorem dX5_readDay_17 : decode cX5_readDay 17 = .ok (.invokevirtual 170, 3) := by decide +kernel
theorem dX5_readDay_20 : decode cX5_readDay 20 = .ok (.istore_n 3, 1) := by decide +kernel
theorem dX5_readDay_21 : decode cX5_readDay 21 = .ok (.aload_n 2, 1) := by decide +kernel
theorem dX5_readDay_22 : decode cX5_readDay 22 = .ok (.iconst 5, 1) := by decide +kernel
theorem dX5_readDay_23 : decode cX5_readDay 23 = .ok (.dup2, 1) := by decide +kernel
theorem dX5_readDay_24 : decode cX5_readDay 24 = .ok (.iaload, 1) := by decide +kernel
theorem dX5_readDay_25 : decode cX5_readDay 25 = .ok (.aload_n 0, 1) := by decide +kernel
theorem dX5_readDay_26 : decode cX5_readDay 26 = .ok (.iload_n 1, 1) := by decide +kernel
theorem dX5_readDay_27 : decode cX5_readDay 27 = .ok (.aload_n 2, 1) := by decide +kernel
theorem dX5_readDay_28 : decode cX5_readDay 28 = .ok (.iconst 5, 1) := by decide +kernel
theorem dX5_readDay_29 : decode cX5_readDay 29 = .ok (.iaload, 1) := by decide +kernel
theorem dX5_readDay_30 : decode cX5_readDay 30 = .ok (.invokevirtual 173, 3) := by decide +kernel
theorem dX5_readDay_33 : decode cX5_readDay 33 = .ok (.iadd, 1) := by decide +kernel
theorem dX5_readDay_34 : decode cX5_readDay 34 = .ok (.iastore, 1) := by decide +kernel
theorem dX5_readDay_35 : decode cX5_readDay 35 = .ok (.aload_n 0, 1) := by decide +kernel
theorem dX5_readDay_36 : decode cX5_readDay 36 = .ok (.iload_n 1, 1) := by decide +kernel
theorem dX5_readDay_37 : decode cX5_readDay 37 = .ok (.aload_n 2, 1) := by decide +kernel
theorem dX5_readDay_38 : decode cX5_readDay 38 = .ok (.iconst 5, 1) := by decide +kernel
theorem dX5_readDay_39 : decode cX5_readDay 39 = .ok (.iaload, 1) := by decide +kernel
theorem dX5_readDay_40 : decode cX5_readDay 40 = .ok (.invokevirtual 170, 3) := by decide +kernel
theorem dX5_readDay_43 : decode cX5_readDay 43 = .ok (.istore 4, 2) := by decide +kernel
theorem dX5_readDay_45 : decode cX5_readDay 45 = .ok (.iload_n 3, 1) := by decide +kernel
theorem dX5_readDay_46 : decode cX5_readDay 46 = .ok (.istore 5, 2) := by decide +kernel
theorem dX5_readDay_48 : decode cX5_readDay 48 = .ok (.iload 5, 2) := by decide +kernel
theorem dX5_readDay_50 : decode cX5_readDay 50 = .ok (.iload 4, 2) := by decide +kernel
theorem dX5_readDay_52 : decode cX5_readDay 52 = .ok (.if_icmp .ge 90, 3) := by decide +kernel
theorem dX5_readDay_55 : decode cX5_readDay 55 = .ok (.aload_n 0, 1) := by decide +kernel
theorem dX5_readDay_56 : decode cX5_readDay 56 = .ok (.getfield 29, 3) := by decide +kernel
theorem dX5_readDay_59 : decode cX5_readDay 59 = .ok (.iload_n 1, 1) := by decide +kernel
theorem dX5_readDay_60 : decode cX5_readDay 60 = .ok (.invokevirtual 107, 3) := by decide +kernel
theorem dX5_readDay_63 : decode cX5_readDay 63 = .ok (.checkcast 7, 3) := by decide +kernel
theorem dX5_readDay_66 : decode cX5_readDay 66 = .ok (.iload 5, 2) := by decide +kernel
theorem dX5_readDay_68 : decode cX5_readDay 68 = .ok (.invokevirtual 107, 3) := by decide +kernel
theorem dX5_readDay_71 : decode cX5_readDay 71 = .ok (.checkcast 112, 3) := by decide +kernel
theorem dX5_readDay_74 : decode cX5_readDay 74 = .ok (.invokevirtual 157, 3) := by decide +kernel
theorem dX5_readDay_77 : decode cX5_readDay 77 = .ok (.istore 6, 2) := by decide +kernel
theorem dX5_readDay_79 : decode cX5_readDay 79 = .ok (.aload_n 0, 1) := by decide +kernel
theorem dX5_readDay_80 : decode cX5_readDay 80 = .ok (.getfield 16, 3) := by decide +kernel
theorem dX5_readDay_83 : decode cX5_readDay 83 = .ok (.iload 6, 2) := by decide +kernel
theorem dX5_readDay_85 : decode cX5_readDay 85 = .ok (.invokevirtual 107, 3) := by decide +kernel
theorem dX5_readDay_88 : decode cX5_readDay 88 = .ok (.checkcast 76, 3) := by decide +kernel
theorem dX5_readDay_91 : decode cX5_readDay 91 = .ok (.astore 7, 2) := by decide +kernel
theorem dX5_readDay_93 : decode cX5_readDay 93 = .ok (.aload_n 0, 1) := by decide +kernel
theorem dX5_readDay_94 : decode cX5_readDay 94 = .ok (.getfield 34, 3) := by decide +kernel
theorem dX5_readDay_97 : decode cX5_readDay 97 = .ok (.iload_n 1, 1) := by decide +kernel
theorem dX5_readDay_98 : decode cX5_readDay 98 = .ok (.aaload, 1) := by decide +kernel
theorem dX5_readDay_99 : decode cX5_readDay 99 = .ok (.iload 6, 2) := by decide +kernel
theorem dX5_readDay_101 : decode cX5_readDay 101 = .ok (.iconst 0, 1) := by decide +kernel
theorem dX5_readDay_102 : decode cX5_readDay 102 = .ok (.bipush 99, 2) := by decide +kernel
theorem dX5_readDay_104 : decode cX5_readDay 104 = .ok (.aload 7, 2) := by decide +kernel
theorem dX5_readDay_106 : decode cX5_readDay 106 = .ok (.iconst 4, 1) := by decide +kernel
theorem dX5_readDay_107 : decode cX5_readDay 107 = .ok (.iaload, 1) := by decide +kernel
theorem dX5_readDay_108 : decode cX5_readDay 108 = .ok (.aload_n 2, 1) := by decide +kernel
theorem dX5_readDay_109 : decode cX5_readDay 109 = .ok (.iconst 2, 1) := by decide +kernel
theorem dX5_readDay_110 : decode cX5_readDay 110 = .ok (.iaload, 1) := by decide +kernel
theorem dX5_readDay_111 : decode cX5_readDay 111 = .ok (.iadd, 1) := by decide +kernel
theorem dX5_readDay_112 : decode cX5_readDay 112 = .ok (.bipush 10, 2) := by decide +kernel
theorem dX5_readDay_114 : decode cX5_readDay 114 = .ok (.iadd, 1) := by decide +kernel
theorem dX5_readDay_115 : decode cX5_readDay 115 = .ok (.iconst 2, 1) := by decide +kernel
theorem dX5_readDay_116 : decode cX5_readDay 116 = .ok (.aload_n 2, 1) := by decide +kernel
theorem dX5_readDay_117 : decode cX5_readDay 117 = .ok (.iconst 1, 1) := by decide +kernel
theorem dX5_readDay_118 : decode cX5_readDay 118 = .ok (.iaload, 1) := by decide +kernel
theorem dX5_readDay_119 : decode cX5_readDay 119 = .ok (.aload 7, 2) := by decide +kernel
theorem dX5_readDay_121 : decode cX5_readDay 121 = .ok (.iconst 5, 1) := by decide +kernel
theorem dX5_readDay_122 : decode cX5_readDay 122 = .ok (.iaload, 1) := by decide +kernel
theorem dX5_readDay_123 : decode cX5_readDay 123 = .ok (.isub, 1) := by decide +kernel
theorem dX5_readDay_124 : decode cX5_readDay 124 = .ok (.invokestatic 176, 3) := by decide +kernel
theorem dX5_readDay_127 : decode cX5_readDay 127 = .ok (.imul, 1) := by decide +kernel
theorem dX5_readDay_128 : decode cX5_readDay 128 = .ok (.isub, 1) := by decide +kernel
theorem dX5_readDay_129 : decode cX5_readDay 129 = .ok (.invokestatic 125, 3) := by decide +kernel
theorem dX5_readDay_132 : decode cX5_readDay 132 = .ok (.invokestatic 167, 3) := by decide +kernel
theorem dX5_readDay_135 : decode cX5_readDay 135 = .ok (.iastore, 1) := by decide +kernel
theorem dX5_readDay_136 : decode cX5_readDay 136 = .ok (.iinc 5 1, 3) := by decide +kernel
theorem dX5_readDay_139 : decode cX5_readDay 139 = .ok (.goto (-91), 3) := by decide +kernel
theorem dX5_readDay_142 : decode cX5_readDay 142 = .ok (.iload 4, 2) := by decide +kernel
theorem dX5_readDay_144 : decode cX5_readDay 144 = .ok (.iload_n 3, 1) := by decide +kernel
theorem dX5_readDay_145 : decode cX5_readDay 145 = .ok (.isub, 1) := by decide +kernel
theorem dX5_readDay_146 : decode cX5_readDay 146 = .ok (.ireturn, 1) := by decide +kernel
theorem dX5_asked_0 : decode cX5_asked 0 = .ok (.iload_n 1, 1) := by decide +kernel
theorem dX5_asked_1 : decode cX5_asked 1 = .ok (.aload_n 0, 1) := by decide +kernel
theorem dX5_asked_2 : decode cX5_asked 2 = .ok (.getfield 40, 3) := by decide +kernel
theorem dX5_asked_5 : decode cX5_asked 5 = .ok (.if_icmp .eq 11, 3) := by decide +kernel
theorem dX5_asked_8 : decode cX5_asked 8 = .ok (.iload_n 1, 1) := by decide +kernel
theorem dX5_asked_9 : decode cX5_asked 9 = .ok (.aload_n 0, 1) := by decide +kernel
theorem dX5_asked_10 : decode cX5_asked 10 = .ok (.getfield 44, 3) := by decide +kernel
theorem dX5_asked_13 : decode cX5_asked 13 = .ok (.if_icmp .ne 6, 3) := by decide +kernel
theorem dX5_asked_16 : decode cX5_asked 16 = .ok (.bipush 90, 2) := by decide +kernel
theorem dX5_asked_18 : decode cX5_asked 18 = .ok (.ireturn, 1) := by decide +kernel
theorem dX5_asked_19 : decode cX5_asked 19 = .ok (.aload_n 0, 1) := by decide +kernel
theorem dX5_asked_20 : decode cX5_asked 20 = .ok (.getfield 80, 3) := by decide +kernel
theorem dX5_asked_23 : decode cX5_asked 23 = .ok (.iload_n 1, 1) := by decide +kernel
theorem dX5_asked_24 : decode cX5_asked 24 = .ok (.ishr, 1) := by decide +kernel
theorem dX5_asked_25 : decode cX5_asked 25 = .ok (.iconst 1, 1) := by decide +kernel
theorem dX5_asked_26 : decode cX5_asked 26 = .ok (.iand, 1) := by decide +kernel
theorem dX5_asked_27 : decode cX5_asked 27 = .ok (.iconst 1, 1) := by decide +kernel
theorem dX5_asked_28 : decode cX5_asked 28 = .ok (.if_icmp .ne 6, 3) := by decide +kernel
theorem dX5_asked_31 : decode cX5_asked 31 = .ok (.bipush 20, 2) := by decide +kernel
theorem dX5_asked_33 : decode cX5_asked 33 = .ok (.ireturn, 1) := by decide +kernel
theorem dX5_asked_34 : decode cX5_asked 34 = .ok (.aload_n 0, 1) := by decide +kernel
theorem dX5_asked_35 : decode cX5_asked 35 = .ok (.getfield 77, 3) := by decide +kernel
theorem dX5_asked_38 : decode cX5_asked 38 = .ok (.iload_n 1, 1) := by decide +kernel
theorem dX5_asked_39 : decode cX5_asked 39 = .ok (.ishr, 1) := by decide +kernel
theorem dX5_asked_40 : decode cX5_asked 40 = .ok (.iconst 1, 1) := by decide +kernel
theorem dX5_asked_41 : decode cX5_asked 41 = .ok (.iand, 1) := by decide +kernel
theorem dX5_asked_42 : decode cX5_asked 42 = .ok (.iconst 1, 1) := by decide +kernel
theorem dX5_asked_43 : decode cX5_asked 43 = .ok (.if_icmp .ne 7, 3) := by decide +kernel
theorem dX5_asked_46 : decode cX5_asked 46 = .ok (.iconst 5, 1) := by decide +kernel
theorem dX5_asked_47 : decode cX5_asked 47 = .ok (.goto 4, 3) := by decide +kernel
theorem dX5_asked_50 : decode cX5_asked 50 = .ok (.iconst 1, 1) := by decide +kernel
theorem dX5_asked_51 : decode cX5_asked 51 = .ok (.ireturn, 1) := by decide +kernel
set_option maxRecDepth 20000 in
theorem ggX5_sell_Jx4a65c_get_915e3 : GoodIn wsX5_sell wsJx4a65c_get_915e3 := goodIn_r _ [11, 12, 13, 14, 15, 16, 17, 18, 19, 20, 21, 22, 23, 10, 24, 25, 60, 61, 62] (by decide +kernel) (by decide +kernel)
set_option maxRecDepth 20000 in
theorem gX5_sell_Jx4a65c_get_915e3 : GoodIn wsX5_sell (wsV RX5 107 RJx4a65c yJx4a65c_get_915e3 wsJx4a65c_get_915e3) := goodIn_app (goodIn_of _ (by decide +kernel)) ggX5_sell_Jx4a65c_get_915e3
set_option maxRecDepth 20000 in
theorem ggX5_sell_X5_asked : GoodIn wsX5_sell wsX5_asked := goodIn_r _ [30, 31, 32, 33, 34, 40, 41, 42, 43, 44, 45, 46, 47, 48, 49, 50, 51, 52, 53, 54, 55, 56, 57, 58, 59] (by decide +kernel) (by decide +kernel)
set_option maxRecDepth 20000 in
theorem gX5_sell_X5_asked : GoodIn wsX5_sell (wsV RX5 179 RX5 yX5_asked wsX5_asked) := goodIn_app (goodIn_of _ (by decide +kernel)) ggX5_sell_X5_asked
set_option maxRecDepth 20000 in
theorem ggX5_sell_X5_houseOf : GoodIn wsX5_sell wsX5_houseOf := goodIn_r _ [38, 39, 1, 2, 7, 8, 9, 10, 11, 12, 13, 14, 15, 16, 17, 18, 19, 20, 21, 22, 23, 24, 25, 40, 41, 42, 43, 44, 45, 46, 47, 48, 49, 50, 51, 52, 53, 54, 55, 56, 57, 58, 59, 60, 61, 62] (by decide +kernel) (by decide +kernel)
set_option maxRecDepth 20000 in
theorem gX5_sell_X5_houseOf : GoodIn wsX5_sell (wsV RX5 134 RX5 yX5_houseOf wsX5_houseOf) := goodIn_app (goodIn_of _ (by decide +kernel)) ggX5_sell_X5_houseOf
theorem dX5_sell_0 : decode cX5_sell 0 = .ok (.aload_n 0, 1) := by decide +kernel
theorem dX5_sell_1 : decode cX5_sell 1 = .ok (.getfield 16, 3) := by decide +kernel
theorem dX5_sell_4 : decode cX5_sell 4 = .ok (.iload_n 1, 1) := by decide +kernel
theorem dX5_sell_5 : decode cX5_sell 5 = .ok (.invokevirtual 107, 3) := by decide +kernel
theorem dX5_sell_8 : decode cX5_sell 8 = .ok (.checkcast 76, 3) := by decide +kernel
theorem dX5_sell_11 : decode cX5_sell 11 = .ok (.astore_n 2, 1) := by decide +kernel
theorem dX5_sell_12 : decode cX5_sell 12 = .ok (.aload_n 0, 1) := by decide +kernel
theorem dX5_sell_13 : decode cX5_sell 13 = .ok (.iload_n 1, 1) := by decide +kernel
theorem dX5_sell_14 : decode cX5_sell 14 = .ok (.invokevirtual 179, 3) := by decide +kernel
theorem dX5_sell_17 : decode cX5_sell 17 = .ok (.istore_n 3, 1) := by decide +kernel
theorem dX5_sell_18 : decode cX5_sell 18 = .ok (.iload_n 3, 1) := by decide +kernel
theorem dX5_sell_19 : decode cX5_sell 19 = .ok (.aload_n 2, 1) := by decide +kernel
theorem dX5_sell_20 : decode cX5_sell 20 = .ok (.bipush 7, 2) := by decide +kernel
theorem dX5_sell_22 : decode cX5_sell 22 = .ok (.iaload, 1) := by decide +kernel
theorem dX5_sell_23 : decode cX5_sell 23 = .ok (.invokestatic 125, 3) := by decide +kernel
theorem dX5_sell_26 : decode cX5_sell 26 = .ok (.istore 4, 2) := by decide +kernel
theorem dX5_sell_28 : decode cX5_sell 28 = .ok (.aload_n 2, 1) := by decide +kernel
theorem dX5_sell_29 : decode cX5_sell 29 = .ok (.bipush 7, 2) := by decide +kernel
theorem dX5_sell_31 : decode cX5_sell 31 = .ok (.dup2, 1) := by decide +kernel
theorem dX5_sell_32 : decode cX5_sell 32 = .ok (.iaload, 1) := by decide +kernel
theorem dX5_sell_33 : decode cX5_sell 33 = .ok (.iload 4, 2) := by decide +kernel
theorem dX5_sell_35 : decode cX5_sell 35 = .ok (.isub, 1) := by decide +kernel
theorem dX5_sell_36 : decode cX5_sell 36 = .ok (.iastore, 1) := by decide +kernel
theorem dX5_sell_37 : decode cX5_sell 37 = .ok (.aload_n 2, 1) := by decide +kernel
theorem dX5_sell_38 : decode cX5_sell 38 = .ok (.bipush 8, 2) := by decide +kernel
theorem dX5_sell_40 : decode cX5_sell 40 = .ok (.dup2, 1) := by decide +kernel
theorem dX5_sell_41 : decode cX5_sell 41 = .ok (.iaload, 1) := by decide +kernel
theorem dX5_sell_42 : decode cX5_sell 42 = .ok (.iload 4, 2) := by decide +kernel
theorem dX5_sell_44 : decode cX5_sell 44 = .ok (.iadd, 1) := by decide +kernel
theorem dX5_sell_45 : decode cX5_sell 45 = .ok (.iastore, 1) := by decide +kernel
theorem dX5_sell_46 : decode cX5_sell 46 = .ok (.aload_n 2, 1) := by decide +kernel
theorem dX5_sell_47 : decode cX5_sell 47 = .ok (.bipush 9, 2) := by decide +kernel
theorem dX5_sell_49 : decode cX5_sell 49 = .ok (.dup2, 1) := by decide +kernel
theorem dX5_sell_50 : decode cX5_sell 50 = .ok (.iaload, 1) := by decide +kernel
theorem dX5_sell_51 : decode cX5_sell 51 = .ok (.iload_n 3, 1) := by decide +kernel
theorem dX5_sell_52 : decode cX5_sell 52 = .ok (.iload 4, 2) := by decide +kernel
theorem dX5_sell_54 : decode cX5_sell 54 = .ok (.isub, 1) := by decide +kernel
theorem dX5_sell_55 : decode cX5_sell 55 = .ok (.iadd, 1) := by decide +kernel
theorem dX5_sell_56 : decode cX5_sell 56 = .ok (.iastore, 1) := by decide +kernel
theorem dX5_sell_57 : decode cX5_sell 57 = .ok (.aload_n 0, 1) := by decide +kernel
theorem dX5_sell_58 : decode cX5_sell 58 = .ok (.iload_n 1, 1) := by decide +kernel
theorem dX5_sell_59 : decode cX5_sell 59 = .ok (.invokevirtual 134, 3) := by decide +kernel
theorem dX5_sell_62 : decode cX5_sell 62 = .ok (.iconst 0, 1) := by decide +kernel
theorem dX5_sell_63 : decode cX5_sell 63 = .ok (.dup2, 1) := by decide +kernel
theorem dX5_sell_64 : decode cX5_sell 64 = .ok (.iaload, 1) := by decide +kernel
theorem dX5_sell_65 : decode cX5_sell 65 = .ok (.iload 4, 2) := by decide +kernel
theorem dX5_sell_67 : decode cX5_sell 67 = .ok (.iadd, 1) := by decide +kernel
theorem dX5_sell_68 : decode cX5_sell 68 = .ok (.iastore, 1) := by decide +kernel
theorem dX5_sell_69 : decode cX5_sell 69 = .ok (.return_, 1) := by decide +kernel
set_option maxRecDepth 20000 in
theorem ggX5_pass_X5_is : GoodIn wsX5_pass wsX5_is := goodIn_r _ [9] (by decide +kernel) (by decide +kernel)
set_option maxRecDepth 20000 in
theorem gX5_pass_X5_is : GoodIn wsX5_pass (va_wsS RX5 57 yX5_is wsX5_is) := goodIn_app (goodIn_of _ (by decide +kernel)) ggX5_pass_X5_is
set_option maxRecDepth 20000 in
theorem ggX5_pass_X5_refuse : GoodIn wsX5_pass wsX5_refuse := goodIn_r _ [13, 1, 123, 124, 125, 126, 127, 128, 129, 130, 131, 132, 133, 134, 135, 136, 137, 138, 139, 140, 141, 142] (by decide +kernel) (by decide +kernel)
set_option maxRecDepth 20000 in
theorem gX5_pass_X5_refuse : GoodIn wsX5_pass (wsV RX5 86 RX5 yX5_refuse wsX5_refuse) := goodIn_app (goodIn_of _ (by decide +kernel)) ggX5_pass_X5_refuse
set_option maxRecDepth 20000 in
theorem ggX5_pass_Jx4a65c_size_8abf5 : GoodIn wsX5_pass wsJx4a65c_size_8abf5 := goodIn_r _ [18, 19, 143, 144, 145] (by decide +kernel) (by decide +kernel)
set_option maxRecDepth 20000 in
theorem gX5_pass_Jx4a65c_size_8abf5 : GoodIn wsX5_pass (wsV RX5 53 RJx4a65c yJx4a65c_size_8abf5 wsJx4a65c_size_8abf5) := goodIn_app (goodIn_of _ (by decide +kernel)) ggX5_pass_Jx4a65c_size_8abf5
set_option maxRecDepth 20000 in
theorem ggX5_pass_X5_readDay : GoodIn wsX5_pass wsX5_readDay := goodIn_r _ [23, 3, 24, 25, 26, 27, 5, 28, 29, 30, 31, 32, 33, 34, 35, 36, 37, 38, 39, 40, 41, 17, 42, 19, 43, 44, 45, 46, 47, 48, 49, 50, 51, 52, 53, 54, 55, 56, 57, 58, 8, 59, 60, 61, 62, 63, 64, 65, 66, 67, 68, 69, 70, 71, 72, 73, 74, 75, 76, 77, 78, 79, 80, 81, 82, 83, 84, 85, 86, 87, 88, 89, 90, 91, 92, 93, 94, 95, 96, 97, 98, 99, 100, 101, 102, 103, 104, 105, 123, 124, 125, 126, 127, 128, 129, 130, 131, 132, 133, 134, 135, 136, 137, 138, 139, 140, 141, 142, 143, 144, 145, 146, 147, 148, 149, 150] (by decide +kernel) (by decide +kernel)
set_option maxRecDepth 20000 in
theorem gX5_pass_X5_readDay : GoodIn wsX5_pass (wsV RX5 185 RX5 yX5_readDay wsX5_readDay) := goodIn_app (goodIn_of _ (by decide +kernel)) ggX5_pass_X5_readDay
set_option maxRecDepth 20000 in
theorem ggX5_pass_X5_sell : GoodIn wsX5_pass wsX5_sell := goodIn_r _ [109, 5, 24, 33, 34, 31, 35, 39, 40, 41, 17, 42, 19, 43, 44, 45, 46, 47, 48, 49, 50, 51, 52, 53, 54, 55, 110, 111, 112, 8, 113, 114, 115, 116, 117, 118, 119, 120, 121, 122, 123, 124, 125, 126, 127, 128, 129, 130, 131, 132, 133, 134, 135, 136, 137, 138, 139, 140, 141, 142, 143, 144, 145] (by decide +kernel) (by decide +kernel)
set_option maxRecDepth 20000 in
theorem gX5_pass_X5_sell : GoodIn wsX5_pass (wsV RX5 188 RX5 yX5_sell wsX5_sell) := goodIn_app (goodIn_of _ (by decide +kernel)) ggX5_pass_X5_sell
theorem dX5_pass_0 : decode cX5_pass 0 = .ok (.aload_n 0, 1) := by decide +kernel
theorem dX5_pass_1 : decode cX5_pass 1 = .ok (.iconst 0, 1) := by decide +kernel
theorem dX5_pass_2 : decode cX5_pass 2 = .ok (.putfield 50, 3) := by decide +kernel
theorem dX5_pass_5 : decode cX5_pass 5 = .ok (.iload_n 1, 1) := by decide +kernel
theorem dX5_pass_6 : decode cX5_pass 6 = .ok (.iconst 1, 1) := by decide +kernel
theorem dX5_pass_7 : decode cX5_pass 7 = .ok (.bipush 60, 2) := by decide +kernel
theorem dX5_pass_9 : decode cX5_pass 9 = .ok (.invokestatic 57, 3) := by decide +kernel
theorem dX5_pass_12 : decode cX5_pass 12 = .ok (.ifCond .ne 9, 3) := by decide +kernel
theorem dX5_pass_15 : decode cX5_pass 15 = .ok (.aload_n 0, 1) := by decide +kernel
theorem dX5_pass_16 : decode cX5_pass 16 = .ok (.iconst 1, 1) := by decide +kernel
theorem dX5_pass_17 : decode cX5_pass 17 = .ok (.invokevirtual 86, 3) := by decide +kernel
theorem dX5_pass_20 : decode cX5_pass 20 = .ok (.ireturn, 1) := by decide +kernel
theorem dX5_pass_21 : decode cX5_pass 21 = .ok (.aload_n 0, 1) := by decide +kernel
theorem dX5_pass_22 : decode cX5_pass 22 = .ok (.getfield 182, 3) := by decide +kernel
theorem dX5_pass_25 : decode cX5_pass 25 = .ok (.iload_n 1, 1) := by decide +kernel
theorem dX5_pass_26 : decode cX5_pass 26 = .ok (.iadd, 1) := by decide +kernel
theorem dX5_pass_27 : decode cX5_pass 27 = .ok (.sipush 9999, 3) := by decide +kernel
theorem dX5_pass_30 : decode cX5_pass 30 = .ok (.if_icmp .le 9, 3) := by decide +kernel
theorem dX5_pass_33 : decode cX5_pass 33 = .ok (.aload_n 0, 1) := by decide +kernel
theorem dX5_pass_34 : decode cX5_pass 34 = .ok (.iconst 2, 1) := by decide +kernel
theorem dX5_pass_35 : decode cX5_pass 35 = .ok (.invokevirtual 86, 3) := by decide +kernel
theorem dX5_pass_38 : decode cX5_pass 38 = .ok (.ireturn, 1) := by decide +kernel
theorem dX5_pass_39 : decode cX5_pass 39 = .ok (.iconst 0, 1) := by decide +kernel
theorem dX5_pass_40 : decode cX5_pass 40 = .ok (.istore_n 2, 1) := by decide +kernel
theorem dX5_pass_41 : decode cX5_pass 41 = .ok (.iconst 0, 1) := by decide +kernel
theorem dX5_pass_42 : decode cX5_pass 42 = .ok (.istore_n 3, 1) := by decide +kernel
theorem dX5_pass_43 : decode cX5_pass 43 = .ok (.iload_n 3, 1) := by decide +kernel
theorem dX5_pass_44 : decode cX5_pass 44 = .ok (.iload_n 1, 1) := by decide +kernel
theorem dX5_pass_45 : decode cX5_pass 45 = .ok (.if_icmp .ge 84, 3) := by decide +kernel
theorem dX5_pass_48 : decode cX5_pass 48 = .ok (.aload_n 0, 1) := by decide +kernel
theorem dX5_pass_49 : decode cX5_pass 49 = .ok (.dup, 1) := by decide +kernel
theorem dX5_pass_50 : decode cX5_pass 50 = .ok (.getfield 182, 3) := by decide +kernel
theorem dX5_pass_53 : decode cX5_pass 53 = .ok (.iconst 1, 1) := by decide +kernel
theorem dX5_pass_54 : decode cX5_pass 54 = .ok (.iadd, 1) := by decide +kernel
theorem dX5_pass_55 : decode cX5_pass 55 = .ok (.putfield 182, 3) := by decide +kernel
theorem dX5_pass_58 : decode cX5_pass 58 = .ok (.iconst 0, 1) := by decide +kernel
theorem dX5_pass_59 : decode cX5_pass 59 = .ok (.istore 4, 2) := by decide +kernel
theorem dX5_pass_61 : decode cX5_pass 61 = .ok (.iload 4, 2) := by decide +kernel
theorem dX5_pass_63 : decode cX5_pass 63 = .ok (.aload_n 0, 1) := by decide +kernel
theorem dX5_pass_64 : decode cX5_pass 64 = .ok (.getfield 19, 3) := by decide +kernel
theorem dX5_pass_67 : decode cX5_pass 67 = .ok (.invokevirtual 53, 3) := by decide +kernel
theorem dX5_pass_70 : decode cX5_pass 70 = .ok (.if_icmp .ge 26, 3) := by decide +kernel
theorem dX5_pass_73 : decode cX5_pass 73 = .ok (.aload_n 0, 1) := by decide +kernel
theorem dX5_pass_74 : decode cX5_pass 74 = .ok (.getfield 101, 3) := by decide +kernel
theorem dX5_pass_77 : decode cX5_pass 77 = .ok (.iconst 1, 1) := by decide +kernel
theorem dX5_pass_78 : decode cX5_pass 78 = .ok (.if_icmp .ne 18, 3) := by decide +kernel
theorem dX5_pass_81 : decode cX5_pass 81 = .ok (.iload_n 2, 1) := by decide +kernel
theorem dX5_pass_82 : decode cX5_pass 82 = .ok (.aload_n 0, 1) := by decide +kernel
theorem dX5_pass_83 : decode cX5_pass 83 = .ok (.iload 4, 2) := by decide +kernel
theorem dX5_pass_85 : decode cX5_pass 85 = .ok (.invokevirtual 185, 3) := by decide +kernel
theorem dX5_pass_88 : decode cX5_pass 88 = .ok (.iadd, 1) := by decide +kernel
theorem dX5_pass_89 : decode cX5_pass 89 = .ok (.istore_n 2, 1) := by decide +kernel
theorem dX5_pass_90 : decode cX5_pass 90 = .ok (.iinc 4 1, 3) := by decide +kernel
theorem dX5_pass_93 : decode cX5_pass 93 = .ok (.goto (-32), 3) := by decide +kernel
theorem dX5_pass_96 : decode cX5_pass 96 = .ok (.iconst 0, 1) := by decide +kernel
theorem dX5_pass_97 : decode cX5_pass 97 = .ok (.istore 4, 2) := by decide +kernel
theorem dX5_pass_99 : decode cX5_pass 99 = .ok (.iload 4, 2) := by decide +kernel
theorem dX5_pass_101 : decode cX5_pass 101 = .ok (.aload_n 0, 1) := by decide +kernel
theorem dX5_pass_102 : decode cX5_pass 102 = .ok (.getfield 16, 3) := by decide +kernel
theorem dX5_pass_105 : decode cX5_pass 105 = .ok (.invokevirtual 53, 3) := by decide +kernel
theorem dX5_pass_108 : decode cX5_pass 108 = .ok (.if_icmp .ge 15, 3) := by decide +kernel
theorem dX5_pass_111 : decode cX5_pass 111 = .ok (.aload_n 0, 1) := by decide +kernel
theorem dX5_pass_112 : decode cX5_pass 112 = .ok (.iload 4, 2) := by decide +kernel
theorem dX5_pass_114 : decode cX5_pass 114 = .ok (.invokevirtual 188, 3) := by decide +kernel
theorem dX5_pass_117 : decode cX5_pass 117 = .ok (.iinc 4 1, 3) := by decide +kernel
theorem dX5_pass_120 : decode cX5_pass 120 = .ok (.goto (-21), 3) := by decide +kernel
theorem dX5_pass_123 : decode cX5_pass 123 = .ok (.iinc 3 1, 3) := by decide +kernel
theorem dX5_pass_126 : decode cX5_pass 126 = .ok (.goto (-83), 3) := by decide +kernel
theorem dX5_pass_129 : decode cX5_pass 129 = .ok (.iload_n 2, 1) := by decide +kernel
theorem dX5_pass_130 : decode cX5_pass 130 = .ok (.ireturn, 1) := by decide +kernel
set_option maxRecDepth 20000 in
theorem ggX5_meanOf_Jx4a65c_size_8abf5 : GoodIn wsX5_meanOf wsJx4a65c_size_8abf5 := goodIn_r _ [7, 8, 29, 30, 31] (by decide +kernel) (by decide +kernel)
set_option maxRecDepth 20000 in
theorem gX5_meanOf_Jx4a65c_size_8abf5 : GoodIn wsX5_meanOf (wsV RX5 53 RJx4a65c yJx4a65c_size_8abf5 wsJx4a65c_size_8abf5) := goodIn_app (goodIn_of _ (by decide +kernel)) ggX5_meanOf_Jx4a65c_size_8abf5
theorem dX5_meanOf_0 : decode cX5_meanOf 0 = .ok (.iconst 0, 1) := by decide +kernel
theorem dX5_meanOf_1 : decode cX5_meanOf 1 = .ok (.istore_n 2, 1) := by decide +kernel
theorem dX5_meanOf_2 : decode cX5_meanOf 2 = .ok (.iconst 0, 1) := by decide +kernel
theorem dX5_meanOf_3 : decode cX5_meanOf 3 = .ok (.istore_n 3, 1) := by decide +kernel
theorem dX5_meanOf_4 : decode cX5_meanOf 4 = .ok (.iconst 0, 1) := by decide +kernel
theorem dX5_meanOf_5 : decode cX5_meanOf 5 = .ok (.istore 4, 2) := by decide +kernel
theorem dX5_meanOf_7 : decode cX5_meanOf 7 = .ok (.iload 4, 2) := by decide +kernel
theorem dX5_meanOf_9 : decode cX5_meanOf 9 = .ok (.aload_n 0, 1) := by decide +kernel
theorem dX5_meanOf_10 : decode cX5_meanOf 10 = .ok (.getfield 16, 3) := by decide +kernel
theorem dX5_meanOf_13 : decode cX5_meanOf 13 = .ok (.invokevirtual 53, 3) := by decide +kernel
theorem dX5_meanOf_16 : decode cX5_meanOf 16 = .ok (.if_icmp .ge 43, 3) := by decide +kernel
theorem dX5_meanOf_19 : decode cX5_meanOf 19 = .ok (.aload_n 0, 1) := by decide +kernel
theorem dX5_meanOf_20 : decode cX5_meanOf 20 = .ok (.getfield 34, 3) := by decide +kernel
theorem dX5_meanOf_23 : decode cX5_meanOf 23 = .ok (.iload_n 1, 1) := by decide +kernel
theorem dX5_meanOf_24 : decode cX5_meanOf 24 = .ok (.aaload, 1) := by decide +kernel
theorem dX5_meanOf_25 : decode cX5_meanOf 25 = .ok (.iload 4, 2) := by decide +kernel
theorem dX5_meanOf_27 : decode cX5_meanOf 27 = .ok (.iaload, 1) := by decide +kernel
theorem dX5_meanOf_28 : decode cX5_meanOf 28 = .ok (.iconst (-1), 1) := by decide +kernel
theorem dX5_meanOf_29 : decode cX5_meanOf 29 = .ok (.if_icmp .ne 6, 3) := by decide +kernel
theorem dX5_meanOf_32 : decode cX5_meanOf 32 = .ok (.goto 21, 3) := by decide +kernel
theorem dX5_meanOf_35 : decode cX5_meanOf 35 = .ok (.iload_n 2, 1) := by decide +kernel
theorem dX5_meanOf_36 : decode cX5_meanOf 36 = .ok (.bipush 10, 2) := by decide +kernel
theorem dX5_meanOf_38 : decode cX5_meanOf 38 = .ok (.aload_n 0, 1) := by decide +kernel
theorem dX5_meanOf_39 : decode cX5_meanOf 39 = .ok (.getfield 34, 3) := by decide +kernel
theorem dX5_meanOf_42 : decode cX5_meanOf 42 = .ok (.iload_n 1, 1) := by decide +kernel
theorem dX5_meanOf_43 : decode cX5_meanOf 43 = .ok (.aaload, 1) := by decide +kernel
theorem dX5_meanOf_44 : decode cX5_meanOf 44 = .ok (.iload 4, 2) := by decide +kernel
theorem dX5_meanOf_46 : decode cX5_meanOf 46 = .ok (.iaload, 1) := by decide +kernel
theorem dX5_meanOf_47 : decode cX5_meanOf 47 = .ok (.imul, 1) := by decide +kernel
theorem dX5_meanOf_48 : decode cX5_meanOf 48 = .ok (.iadd, 1) := by decide +kernel
theorem dX5_meanOf_49 : decode cX5_meanOf 49 = .ok (.istore_n 2, 1) := by decide +kernel
theorem dX5_meanOf_50 : decode cX5_meanOf 50 = .ok (.iinc 3 1, 3) := by decide +kernel
theorem dX5_meanOf_53 : decode cX5_meanOf 53 = .ok (.iinc 4 1, 3) := by decide +kernel
theorem dX5_meanOf_56 : decode cX5_meanOf 56 = .ok (.goto (-49), 3) := by decide +kernel
theorem dX5_meanOf_59 : decode cX5_meanOf 59 = .ok (.iload_n 2, 1) := by decide +kernel
theorem dX5_meanOf_60 : decode cX5_meanOf 60 = .ok (.iload_n 3, 1) := by decide +kernel
theorem dX5_meanOf_61 : decode cX5_meanOf 61 = .ok (.idiv, 1) := by decide +kernel
theorem dX5_meanOf_62 : decode cX5_meanOf 62 = .ok (.ireturn, 1) := by decide +kernel
set_option maxRecDepth 20000 in
theorem ggX5_counts_X5_isConflict : GoodIn wsX5_counts wsX5_isConflict := goodIn_r _ [6, 7, 8, 9, 10, 11, 12, 13, 14, 15, 16, 17, 18, 19, 20, 21, 22, 23, 24, 25, 26, 27, 28, 29, 30, 31, 32, 33, 34, 35, 36, 37, 38, 39, 40, 41, 42, 43, 44, 45, 46, 47, 48, 49, 50, 51] (by decide +kernel) (by decide +kernel)
set_option maxRecDepth 20000 in
theorem gX5_counts_X5_isConflict : GoodIn wsX5_counts (wsV RX5 153 RX5 yX5_isConflict wsX5_isConflict) := goodIn_app (goodIn_of _ (by decide +kernel)) ggX5_counts_X5_isConflict
theorem dX5_counts_0 : decode cX5_counts 0 = .ok (.aload_n 0, 1) := by decide +kernel
theorem dX5_counts_1 : decode cX5_counts 1 = .ok (.getfield 34, 3) := by decide +kernel
theorem dX5_counts_4 : decode cX5_counts 4 = .ok (.iload_n 1, 1) := by decide +kernel
theorem dX5_counts_5 : decode cX5_counts 5 = .ok (.aaload, 1) := by decide +kernel
theorem dX5_counts_6 : decode cX5_counts 6 = .ok (.iload_n 2, 1) := by decide +kernel
theorem dX5_counts_7 : decode cX5_counts 7 = .ok (.iaload, 1) := by decide +kernel
theorem dX5_counts_8 : decode cX5_counts 8 = .ok (.iconst (-1), 1) := by decide +kernel
theorem dX5_counts_9 : decode cX5_counts 9 = .ok (.if_icmp .eq 16, 3) := by decide +kernel
theorem dX5_counts_12 : decode cX5_counts 12 = .ok (.aload_n 0, 1) := by decide +kernel
theorem dX5_counts_13 : decode cX5_counts 13 = .ok (.iload_n 1, 1) := by decide +kernel
theorem dX5_counts_14 : decode cX5_counts 14 = .ok (.iload_n 2, 1) := by decide +kernel
theorem dX5_counts_15 : decode cX5_counts 15 = .ok (.invokevirtual 153, 3) := by decide +kernel
theorem dX5_counts_18 : decode cX5_counts 18 = .ok (.ifCond .ne 7, 3) := by decide +kernel
theorem dX5_counts_21 : decode cX5_counts 21 = .ok (.iconst 1, 1) := by decide +kernel
theorem dX5_counts_22 : decode cX5_counts 22 = .ok (.goto 4, 3) := by decide +kernel
theorem dX5_counts_25 : decode cX5_counts 25 = .ok (.iconst 0, 1) := by decide +kernel
theorem dX5_counts_26 : decode cX5_counts 26 = .ok (.ireturn, 1) := by decide +kernel
set_option maxRecDepth 20000 in
theorem ggX5_marksOf_Jx4a65c_size_8abf5 : GoodIn wsX5_marksOf wsJx4a65c_size_8abf5 := goodIn_r _ [6, 7, 57, 58, 59] (by decide +kernel) (by decide +kernel)
set_option maxRecDepth 20000 in
theorem gX5_marksOf_Jx4a65c_size_8abf5 : GoodIn wsX5_marksOf (wsV RX5 53 RJx4a65c yJx4a65c_size_8abf5 wsJx4a65c_size_8abf5) := goodIn_app (goodIn_of _ (by decide +kernel)) ggX5_marksOf_Jx4a65c_size_8abf5
set_option maxRecDepth 20000 in
theorem ggX5_marksOf_X5_counts : GoodIn wsX5_marksOf wsX5_counts := goodIn_r _ [12, 13, 14, 15, 16, 11, 17, 1, 18, 19, 20, 21, 22, 5, 23, 7, 24, 25, 26, 27, 28, 29, 30, 31, 32, 33, 34, 35, 36, 37, 38, 39, 40, 41, 42, 43, 44, 45, 46, 47, 48, 49, 50, 51, 52, 53, 54, 55, 56, 57, 58, 59] (by decide +kernel) (by decide +kernel)
set_option maxRecDepth 20000 in
theorem gX5_marksOf_X5_counts : GoodIn wsX5_marksOf (wsV RX5 192 RX5 yX5_counts wsX5_counts) := goodIn_app (goodIn_of _ (by decide +kernel)) ggX5_marksOf_X5_counts
theorem dX5_marksOf_0 : decode cX5_marksOf 0 = .ok (.iconst 0, 1) := by decide +kernel
theorem dX5_marksOf_1 : decode cX5_marksOf 1 = .ok (.istore_n 2, 1) := by decide +kernel
theorem dX5_marksOf_2 : decode cX5_marksOf 2 = .ok (.iconst 0, 1) := by decide +kernel
theorem dX5_marksOf_3 : decode cX5_marksOf 3 = .ok (.istore_n 3, 1) := by decide +kernel
theorem dX5_marksOf_4 : decode cX5_marksOf 4 = .ok (.iload_n 3, 1) := by decide +kernel
theorem dX5_marksOf_5 : decode cX5_marksOf 5 = .ok (.aload_n 0, 1) := by decide +kernel
theorem dX5_marksOf_6 : decode cX5_marksOf 6 = .ok (.getfield 19, 3) := by decide +kernel
theorem dX5_marksOf_9 : decode cX5_marksOf 9 = .ok (.invokevirtual 53, 3) := by decide +kernel
theorem dX5_marksOf_12 : decode cX5_marksOf 12 = .ok (.if_icmp .ge 26, 3) := by decide +kernel
theorem dX5_marksOf_15 : decode cX5_marksOf 15 = .ok (.iload_n 2, 1) := by decide +kernel
theorem dX5_marksOf_16 : decode cX5_marksOf 16 = .ok (.aload_n 0, 1) := by decide +kernel
theorem dX5_marksOf_17 : decode cX5_marksOf 17 = .ok (.iload_n 3, 1) := by decide +kernel
theorem dX5_marksOf_18 : decode cX5_marksOf 18 = .ok (.iload_n 1, 1) := by decide +kernel
theorem dX5_marksOf_19 : decode cX5_marksOf 19 = .ok (.invokevirtual 192, 3) := by decide +kernel
theorem dX5_marksOf_22 : decode cX5_marksOf 22 = .ok (.ifCond .eq 7, 3) := by decide +kernel
theorem dX5_marksOf_25 : decode cX5_marksOf 25 = .ok (.iconst 1, 1) := by decide +kernel
theorem dX5_marksOf_26 : decode cX5_marksOf 26 = .ok (.goto 4, 3) := by decide +kernel
theorem dX5_marksOf_29 : decode cX5_marksOf 29 = .ok (.iconst 0, 1) := by decide +kernel
theorem dX5_marksOf_30 : decode cX5_marksOf 30 = .ok (.iadd, 1) := by decide +kernel
theorem dX5_marksOf_31 : decode cX5_marksOf 31 = .ok (.istore_n 2, 1) := by decide +kernel
theorem dX5_marksOf_32 : decode cX5_marksOf 32 = .ok (.iinc 3 1, 3) := by decide +kernel
theorem dX5_marksOf_35 : decode cX5_marksOf 35 = .ok (.goto (-31), 3) := by decide +kernel
theorem dX5_marksOf_38 : decode cX5_marksOf 38 = .ok (.iload_n 2, 1) := by decide +kernel
theorem dX5_marksOf_39 : decode cX5_marksOf 39 = .ok (.ireturn, 1) := by decide +kernel
set_option maxRecDepth 20000 in
theorem ggX5_score_Jx4a65c_size_8abf5 : GoodIn wsX5_score wsJx4a65c_size_8abf5 := goodIn_r _ [7, 8, 69, 70, 71] (by decide +kernel) (by decide +kernel)
set_option maxRecDepth 20000 in
theorem gX5_score_Jx4a65c_size_8abf5 : GoodIn wsX5_score (wsV RX5 53 RJx4a65c yJx4a65c_size_8abf5 wsJx4a65c_size_8abf5) := goodIn_app (goodIn_of _ (by decide +kernel)) ggX5_score_Jx4a65c_size_8abf5
set_option maxRecDepth 20000 in
theorem ggX5_score_X5_counts : GoodIn wsX5_score wsX5_counts := goodIn_r _ [13, 2, 14, 15, 16, 12, 17, 1, 18, 19, 20, 21, 22, 6, 23, 8, 24, 25, 26, 27, 28, 29, 30, 31, 32, 33, 34, 35, 36, 49, 50, 51, 52, 53, 54, 55, 56, 57, 58, 59, 60, 61, 62, 63, 64, 65, 66, 67, 68, 69, 70, 71] (by decide +kernel) (by decide +kernel)
set_option maxRecDepth 20000 in
theorem gX5_score_X5_counts : GoodIn wsX5_score (wsV RX5 192 RX5 yX5_counts wsX5_counts) := goodIn_app (goodIn_of _ (by decide +kernel)) ggX5_score_X5_counts
set_option maxRecDepth 20000 in
theorem ggX5_score_X5_meanOf : GoodIn wsX5_score wsX5_meanOf := goodIn_r _ [40, 19, 2, 3, 4, 5, 6, 7, 8, 49, 50, 51, 52, 53, 54, 55, 56, 57, 58, 59, 60, 61, 62, 63, 64, 65, 66, 67, 68, 69, 70, 71] (by decide +kernel) (by decide +kernel)
set_option maxRecDepth 20000 in
theorem gX5_score_X5_meanOf : GoodIn wsX5_score (wsV RX5 195 RX5 yX5_meanOf wsX5_meanOf) := goodIn_app (goodIn_of _ (by decide +kernel)) ggX5_score_X5_meanOf
set_option maxRecDepth 20000 in
theorem ggX5_score_X5_marksOf : GoodIn wsX5_score wsX5_marksOf := goodIn_r _ [44, 1, 3, 4, 5, 6, 7, 8, 9, 10, 11, 12, 13, 2, 14, 15, 16, 17, 18, 19, 20, 21, 22, 23, 24, 25, 26, 27, 28, 29, 30, 31, 32, 33, 34, 35, 36, 49, 50, 51, 52, 53, 54, 55, 56, 57, 58, 59, 60, 61, 62, 63, 64, 65, 66, 67, 68, 69, 70, 71] (by decide +kernel) (by decide +kernel)
set_option maxRecDepth 20000 in
theorem gX5_score_X5_marksOf : GoodIn wsX5_score (wsV RX5 198 RX5 yX5_marksOf wsX5_marksOf) := goodIn_app (goodIn_of _ (by decide +kernel)) ggX5_score_X5_marksOf
set_option maxRecDepth 20000 in
theorem ggX5_score_J9_floorDiv_7cf53 : GoodIn wsX5_score wsJ9_floorDiv_7cf53 := goodIn_r _ [48] (by decide +kernel) (by decide +kernel)
set_option maxRecDepth 20000 in
theorem gX5_score_J9_floorDiv_7cf53 : GoodIn wsX5_score (va_wsS RX5 201 yJ9_floorDiv_7cf53 wsJ9_floorDiv_7cf53) := goodIn_app (goodIn_of _ (by decide +kernel)) ggX5_score_J9_floorDiv_7cf53
theorem dX5_score_0 : decode cX5_score 0 = .ok (.iconst 0, 1) := by decide +kernel
theorem dX5_score_1 : decode cX5_score 1 = .ok (.istore_n 2, 1) := by decide +kernel
theorem dX5_score_2 : decode cX5_score 2 = .ok (.iconst 0, 1) := by decide +kernel
theorem dX5_score_3 : decode cX5_score 3 = .ok (.istore_n 3, 1) := by decide +kernel
theorem dX5_score_4 : decode cX5_score 4 = .ok (.iload_n 3, 1) := by decide +kernel
theorem dX5_score_5 : decode cX5_score 5 = .ok (.aload_n 0, 1) := by decide +kernel
theorem dX5_score_6 : decode cX5_score 6 = .ok (.getfield 19, 3) := by decide +kernel
theorem dX5_score_9 : decode cX5_score 9 = .ok (.invokevirtual 53, 3) := by decide +kernel
theorem dX5_score_12 : decode cX5_score 12 = .ok (.if_icmp .ge 42, 3) := by decide +kernel
theorem dX5_score_15 : decode cX5_score 15 = .ok (.iload_n 2, 1) := by decide +kernel
theorem dX5_score_16 : decode cX5_score 16 = .ok (.aload_n 0, 1) := by decide +kernel
theorem dX5_score_17 : decode cX5_score 17 = .ok (.iload_n 3, 1) := by decide +kernel
theorem dX5_score_18 : decode cX5_score 18 = .ok (.iload_n 1, 1) := by decide +kernel
theorem dX5_score_19 : decode cX5_score 19 = .ok (.invokevirtual 192, 3) := by decide +kernel
theorem dX5_score_22 : decode cX5_score 22 = .ok (.ifCond .eq 23, 3) := by decide +kernel
theorem dX5_score_25 : decode cX5_score 25 = .ok (.bipush 10, 2) := by decide +kernel
theorem dX5_score_27 : decode cX5_score 27 = .ok (.aload_n 0, 1) := by decide +kernel
theorem dX5_score_28 : decode cX5_score 28 = .ok (.getfield 34, 3) := by decide +kernel
theorem dX5_score_31 : decode cX5_score 31 = .ok (.iload_n 3, 1) := by decide +kernel
theorem dX5_score_32 : decode cX5_score 32 = .ok (.aaload, 1) := by decide +kernel
theorem dX5_score_33 : decode cX5_score 33 = .ok (.iload_n 1, 1) := by decide +kernel
theorem dX5_score_34 : decode cX5_score 34 = .ok (.iaload, 1) := by decide +kernel
theorem dX5_score_35 : decode cX5_score 35 = .ok (.imul, 1) := by decide +kernel
theorem dX5_score_36 : decode cX5_score 36 = .ok (.aload_n 0, 1) := by decide +kernel
theorem dX5_score_37 : decode cX5_score 37 = .ok (.iload_n 3, 1) := by decide +kernel
theorem dX5_score_38 : decode cX5_score 38 = .ok (.invokevirtual 195, 3) := by decide +kernel
theorem dX5_score_41 : decode cX5_score 41 = .ok (.isub, 1) := by decide +kernel
theorem dX5_score_42 : decode cX5_score 42 = .ok (.goto 4, 3) := by decide +kernel
theorem dX5_score_45 : decode cX5_score 45 = .ok (.iconst 0, 1) := by decide +kernel
theorem dX5_score_46 : decode cX5_score 46 = .ok (.iadd, 1) := by decide +kernel
theorem dX5_score_47 : decode cX5_score 47 = .ok (.istore_n 2, 1) := by decide +kernel
theorem dX5_score_48 : decode cX5_score 48 = .ok (.iinc 3 1, 3) := by decide +kernel
theorem dX5_score_51 : decode cX5_score 51 = .ok (.goto (-47), 3) := by decide +kernel
theorem dX5_score_54 : decode cX5_score 54 = .ok (.aload_n 0, 1) := by decide +kernel
theorem dX5_score_55 : decode cX5_score 55 = .ok (.iload_n 1, 1) := by decide +kernel
theorem dX5_score_56 : decode cX5_score 56 = .ok (.invokevirtual 198, 3) := by decide +kernel
theorem dX5_score_59 : decode cX5_score 59 = .ok (.ifCond .ne 7, 3) := by decide +kernel
theorem dX5_score_62 : decode cX5_score 62 = .ok (.iconst 0, 1) := by decide +kernel
theorem dX5_score_63 : decode cX5_score 63 = .ok (.goto 16, 3) := by decide +kernel
theorem dX5_score_66 : decode cX5_score 66 = .ok (.sipush 500, 3) := by decide +kernel
theorem dX5_score_69 : decode cX5_score 69 = .ok (.iload_n 2, 1) := by decide +kernel
theorem dX5_score_70 : decode cX5_score 70 = .ok (.aload_n 0, 1) := by decide +kernel
theorem dX5_score_71 : decode cX5_score 71 = .ok (.iload_n 1, 1) := by decide +kernel
theorem dX5_score_72 : decode cX5_score 72 = .ok (.invokevirtual 198, 3) := by decide +kernel
theorem dX5_score_75 : decode cX5_score 75 = .ok (.invokestatic 201, 3) := by decide +kernel
theorem dX5_score_78 : decode cX5_score 78 = .ok (.iadd, 1) := by decide +kernel
theorem dX5_score_79 : decode cX5_score 79 = .ok (.ireturn, 1) := by decide +kernel
set_option maxRecDepth 20000 in
theorem ggX5_free_Jx4a65c_size_8abf5 : GoodIn wsX5_free wsJx4a65c_size_8abf5 := goodIn_r _ [6, 7, 52, 53, 54] (by decide +kernel) (by decide +kernel)
set_option maxRecDepth 20000 in
theorem gX5_free_Jx4a65c_size_8abf5 : GoodIn wsX5_free (wsV RX5 53 RJx4a65c yJx4a65c_size_8abf5 wsJx4a65c_size_8abf5) := goodIn_app (goodIn_of _ (by decide +kernel)) ggX5_free_Jx4a65c_size_8abf5
set_option maxRecDepth 20000 in
theorem ggX5_free_X5_isConflict : GoodIn wsX5_free wsX5_isConflict := goodIn_r _ [12, 1, 13, 14, 15, 16, 17, 5, 18, 7, 19, 20, 21, 22, 23, 24, 25, 26, 27, 28, 29, 30, 31, 32, 33, 34, 35, 36, 37, 38, 39, 40, 41, 42, 43, 44, 45, 46, 47, 48, 49, 50, 51, 52, 53, 54] (by decide +kernel) (by decide +kernel)
set_option maxRecDepth 20000 in
theorem gX5_free_X5_isConflict : GoodIn wsX5_free (wsV RX5 153 RX5 yX5_isConflict wsX5_isConflict) := goodIn_app (goodIn_of _ (by decide +kernel)) ggX5_free_X5_isConflict
theorem dX5_free_0 : decode cX5_free 0 = .ok (.iconst 0, 1) := by decide +kernel
theorem dX5_free_1 : decode cX5_free 1 = .ok (.istore_n 2, 1) := by decide +kernel
theorem dX5_free_2 : decode cX5_free 2 = .ok (.iconst 0, 1) := by decide +kernel
theorem dX5_free_3 : decode cX5_free 3 = .ok (.istore_n 3, 1) := by decide +kernel
theorem dX5_free_4 : decode cX5_free 4 = .ok (.iload_n 3, 1) := by decide +kernel
theorem dX5_free_5 : decode cX5_free 5 = .ok (.aload_n 0, 1) := by decide +kernel
theorem dX5_free_6 : decode cX5_free 6 = .ok (.getfield 19, 3) := by decide +kernel
theorem dX5_free_9 : decode cX5_free 9 = .ok (.invokevirtual 53, 3) := by decide +kernel
theorem dX5_free_12 : decode cX5_free 12 = .ok (.if_icmp .ge 26, 3) := by decide +kernel
theorem dX5_free_15 : decode cX5_free 15 = .ok (.iload_n 2, 1) := by decide +kernel
theorem dX5_free_16 : decode cX5_free 16 = .ok (.aload_n 0, 1) := by decide +kernel
theorem dX5_free_17 : decode cX5_free 17 = .ok (.iload_n 3, 1) := by decide +kernel
theorem dX5_free_18 : decode cX5_free 18 = .ok (.iload_n 1, 1) := by decide +kernel
theorem dX5_free_19 : decode cX5_free 19 = .ok (.invokevirtual 153, 3) := by decide +kernel
theorem dX5_free_22 : decode cX5_free 22 = .ok (.ifCond .eq 7, 3) := by decide +kernel
theorem dX5_free_25 : decode cX5_free 25 = .ok (.iconst 0, 1) := by decide +kernel
theorem dX5_free_26 : decode cX5_free 26 = .ok (.goto 4, 3) := by decide +kernel
theorem dX5_free_29 : decode cX5_free 29 = .ok (.iconst 1, 1) := by decide +kernel
theorem dX5_free_30 : decode cX5_free 30 = .ok (.iadd, 1) := by decide +kernel
theorem dX5_free_31 : decode cX5_free 31 = .ok (.istore_n 2, 1) := by decide +kernel
theorem dX5_free_32 : decode cX5_free 32 = .ok (.iinc 3 1, 3) := by decide +kernel
theorem dX5_free_35 : decode cX5_free 35 = .ok (.goto (-31), 3) := by decide +kernel
theorem dX5_free_38 : decode cX5_free 38 = .ok (.iload_n 2, 1) := by decide +kernel
theorem dX5_free_39 : decode cX5_free 39 = .ok (.ireturn, 1) := by decide +kernel
set_option maxRecDepth 20000 in
theorem ggX5_longList_X5_is : GoodIn wsX5_longList wsX5_is := goodIn_r _ [10] (by decide +kernel) (by decide +kernel)
set_option maxRecDepth 20000 in
theorem gX5_longList_X5_is : GoodIn wsX5_longList (va_wsS RX5 57 yX5_is wsX5_is) := goodIn_app (goodIn_of _ (by decide +kernel)) ggX5_longList_X5_is
set_option maxRecDepth 20000 in
theorem ggX5_longList_X5_refuse : GoodIn wsX5_longList wsX5_refuse := goodIn_r _ [14, 1, 127, 128, 129, 130, 131, 132, 133, 134, 135, 136, 137, 138, 139, 140, 141, 142, 143, 144, 145, 146] (by decide +kernel) (by decide +kernel)
set_option maxRecDepth 20000 in
theorem gX5_longList_X5_refuse : GoodIn wsX5_longList (wsV RX5 86 RX5 yX5_refuse wsX5_refuse) := goodIn_app (goodIn_of _ (by decide +kernel)) ggX5_longList_X5_refuse
set_option maxRecDepth 20000 in
theorem ggX5_longList_Jx4a65c_size_8abf5 : GoodIn wsX5_longList wsJx4a65c_size_8abf5 := goodIn_r _ [19, 20, 147, 148, 149] (by decide +kernel) (by decide +kernel)
set_option maxRecDepth 20000 in
theorem gX5_longList_Jx4a65c_size_8abf5 : GoodIn wsX5_longList (wsV RX5 53 RJx4a65c yJx4a65c_size_8abf5 wsJx4a65c_size_8abf5) := goodIn_app (goodIn_of _ (by decide +kernel)) ggX5_longList_Jx4a65c_size_8abf5
set_option maxRecDepth 20000 in
theorem ggX5_longList_X5_left : GoodIn wsX5_longList wsX5_left := goodIn_r _ [24, 3, 6, 25, 26, 27, 9, 28, 29, 30, 31, 5, 32, 33, 34, 18, 35, 20, 36, 37, 38, 39, 40, 41, 42, 43, 44, 45, 46, 47, 48, 49, 50, 51, 52, 53, 54, 55, 56, 57, 58, 59, 60, 61, 62, 63, 64, 65, 66, 67, 68, 69, 70, 71, 72, 73, 74, 75, 76, 77, 78, 79, 80, 81, 82, 83, 84, 85, 86, 127, 128, 129, 130, 131, 132, 133, 134, 135, 136, 137, 138, 139, 140, 141, 142, 143, 144, 145, 146, 147, 148, 149, 150, 151, 152, 153, 154] (by decide +kernel) (by decide +kernel)
set_option maxRecDepth 20000 in
theorem gX5_longList_X5_left : GoodIn wsX5_longList (wsV RX5 204 RX5 yX5_left wsX5_left) := goodIn_app (goodIn_of _ (by decide +kernel)) ggX5_longList_X5_left
set_option maxRecDepth 20000 in
theorem ggX5_longList_J6_bitCount_0f7a4 : GoodIn wsX5_longList wsJ6_bitCount_0f7a4 := goodIn_r _ [89, 90, 91, 92] (by decide +kernel) (by decide +kernel)
set_option maxRecDepth 20000 in
theorem gX5_longList_J6_bitCount_0f7a4 : GoodIn wsX5_longList (va_wsS RX5 111 yJ6_bitCount_0f7a4 wsJ6_bitCount_0f7a4) := goodIn_app (goodIn_of _ (by decide +kernel)) ggX5_longList_J6_bitCount_0f7a4
set_option maxRecDepth 20000 in
theorem ggX5_longList_X5_isEntered : GoodIn wsX5_longList wsX5_isEntered := goodIn_r _ [96, 5, 6, 97, 32, 33, 34, 18, 35, 20, 36, 37, 38, 39, 40, 41, 42, 43, 44, 45, 46, 47, 48, 127, 128, 129, 130, 131, 132, 133, 134, 135, 136, 137, 138, 139, 140, 141, 142, 143, 144, 145, 146, 147, 148, 149] (by decide +kernel) (by decide +kernel)
set_option maxRecDepth 20000 in
theorem gX5_longList_X5_isEntered : GoodIn wsX5_longList (wsV RX5 131 RX5 yX5_isEntered wsX5_isEntered) := goodIn_app (goodIn_of _ (by decide +kernel)) ggX5_longList_X5_isEntered
set_option maxRecDepth 20000 in
theorem ggX5_longList_X5_marksOf : GoodIn wsX5_longList wsX5_marksOf := goodIn_r _ [101, 3, 15, 16, 17, 18, 19, 20, 102, 103, 104, 9, 105, 106, 107, 108, 109, 110, 6, 5, 32, 33, 34, 35, 36, 37, 38, 39, 40, 41, 42, 43, 44, 45, 46, 47, 48, 127, 128, 129, 130, 131, 132, 133, 134, 135, 136, 137, 138, 139, 140, 141, 142, 143, 144, 145, 146, 147, 148, 149] (by decide +kernel) (by decide +kernel)
set_option maxRecDepth 20000 in
theorem gX5_longList_X5_marksOf : GoodIn wsX5_longList (wsV RX5 198 RX5 yX5_marksOf wsX5_marksOf) := goodIn_app (goodIn_of _ (by decide +kernel)) ggX5_longList_X5_marksOf
set_option maxRecDepth 20000 in
theorem ggX5_longList_X5_free : GoodIn wsX5_longList wsX5_free := goodIn_r _ [114, 3, 15, 16, 17, 18, 19, 20, 107, 108, 109, 9, 110, 6, 5, 32, 33, 34, 35, 36, 37, 38, 39, 40, 41, 42, 43, 44, 45, 46, 47, 48, 127, 128, 129, 130, 131, 132, 133, 134, 135, 136, 137, 138, 139, 140, 141, 142, 143, 144, 145, 146, 147, 148, 149] (by decide +kernel) (by decide +kernel)
set_option maxRecDepth 20000 in
theorem gX5_longList_X5_free : GoodIn wsX5_longList (wsV RX5 207 RX5 yX5_free wsX5_free) := goodIn_app (goodIn_of _ (by decide +kernel)) ggX5_longList_X5_free
set_option maxRecDepth 20000 in
theorem ggX5_longList_X5_score : GoodIn wsX5_longList wsX5_score := goodIn_r _ [118, 3, 106, 15, 16, 17, 18, 19, 20, 102, 103, 104, 9, 105, 107, 108, 109, 110, 6, 5, 32, 33, 34, 35, 36, 37, 38, 39, 40, 41, 42, 43, 44, 45, 46, 47, 48, 119, 120, 121, 122, 98, 99, 100, 101, 123, 124, 125, 126, 127, 128, 129, 130, 131, 132, 133, 134, 135, 136, 137, 138, 139, 140, 141, 142, 143, 144, 145, 146, 147, 148, 149] (by decide +kernel) (by decide +kernel)
set_option maxRecDepth 20000 in
theorem gX5_longList_X5_score : GoodIn wsX5_longList (wsV RX5 210 RX5 yX5_score wsX5_score) := goodIn_app (goodIn_of _ (by decide +kernel)) ggX5_longList_X5_score
set_option maxRecDepth 20000 in
theorem ggX5_longList_Jx4a65c_get_915e3 : GoodIn wsX5_longList wsJx4a65c_get_915e3 := goodIn_r _ [35, 20, 36, 37, 38, 39, 40, 41, 42, 43, 44, 45, 46, 18, 47, 48, 147, 148, 149] (by decide +kernel) (by decide +kernel)
set_option maxRecDepth 20000 in
theorem gX5_longList_Jx4a65c_get_915e3 : GoodIn wsX5_longList (wsV RX5 107 RJx4a65c yJx4a65c_get_915e3 wsJx4a65c_get_915e3) := goodIn_app (goodIn_of _ (by decide +kernel)) ggX5_longList_Jx4a65c_get_915e3
theorem dX5_longList_0 : decode cX5_longList 0 = .ok (.aload_n 0, 1) := by decide +kernel
theorem dX5_longList_1 : decode cX5_longList 1 = .ok (.iconst 0, 1) := by decide +kernel
theorem dX5_longList_2 : decode cX5_longList 2 = .ok (.putfield 50, 3) := by decide +kernel
theorem dX5_longList_5 : decode cX5_longList 5 = .ok (.iload_n 1, 1) := by decide +kernel
theorem dX5_longList_6 : decode cX5_longList 6 = .ok (.iconst 3, 1) := by decide +kernel
theorem dX5_longList_7 : decode cX5_longList 7 = .ok (.bipush 8, 2) := by decide +kernel
theorem dX5_longList_9 : decode cX5_longList 9 = .ok (.invokestatic 57, 3) := by decide +kernel
theorem dX5_longList_12 : decode cX5_longList 12 = .ok (.ifCond .ne 9, 3) := by decide +kernel
theorem dX5_longList_15 : decode cX5_longList 15 = .ok (.aload_n 0, 1) := by decide +kernel
theorem dX5_longList_16 : decode cX5_longList 16 = .ok (.iconst 1, 1) := by decide +kernel
theorem dX5_longList_17 : decode cX5_longList 17 = .ok (.invokevirtual 86, 3) := by decide +kernel
theorem dX5_longList_20 : decode cX5_longList 20 = .ok (.ireturn, 1) := by decide +kernel
theorem dX5_longList_21 : decode cX5_longList 21 = .ok (.aload_n 0, 1) := by decide +kernel
theorem dX5_longList_22 : decode cX5_longList 22 = .ok (.getfield 101, 3) := by decide +kernel
theorem dX5_longList_25 : decode cX5_longList 25 = .ok (.iconst 1, 1) := by decide +kernel
theorem dX5_longList_26 : decode cX5_longList 26 = .ok (.if_icmp .ne 7, 3) := by decide +kernel
theorem dX5_longList_29 : decode cX5_longList 29 = .ok (.iconst 1, 1) := by decide +kernel
theorem dX5_longList_30 : decode cX5_longList 30 = .ok (.goto 4, 3) := by decide +kernel
theorem dX5_longList_33 : decode cX5_longList 33 = .ok (.iconst 0, 1) := by decide +kernel
theorem dX5_longList_34 : decode cX5_longList 34 = .ok (.istore_n 2, 1) := by decide +kernel
theorem dX5_longList_35 : decode cX5_longList 35 = .ok (.iconst 0, 1) := by decide +kernel
theorem dX5_longList_36 : decode cX5_longList 36 = .ok (.istore_n 3, 1) := by decide +kernel
theorem dX5_longList_37 : decode cX5_longList 37 = .ok (.iload_n 3, 1) := by decide +kernel
theorem dX5_longList_38 : decode cX5_longList 38 = .ok (.aload_n 0, 1) := by decide +kernel
theorem dX5_longList_39 : decode cX5_longList 39 = .ok (.getfield 19, 3) := by decide +kernel
theorem dX5_longList_42 : decode cX5_longList 42 = .ok (.invokevirtual 53, 3) := by decide +kernel
theorem dX5_longList_45 : decode cX5_longList 45 = .ok (.if_icmp .ge 25, 3) := by decide +kernel
theorem dX5_longList_48 : decode cX5_longList 48 = .ok (.iload_n 2, 1) := by decide +kernel
theorem dX5_longList_49 : decode cX5_longList 49 = .ok (.aload_n 0, 1) := by decide +kernel
theorem dX5_longList_50 : decode cX5_longList 50 = .ok (.iload_n 3, 1) := by decide +kernel
theorem dX5_longList_51 : decode cX5_longList 51 = .ok (.invokevirtual 204, 3) := by decide +kernel
theorem dX5_longList_54 : decode cX5_longList 54 = .ok (.ifCond .ne 7, 3) := by decide +kernel
theorem dX5_longList_57 : decode cX5_longList 57 = .ok (.iconst 1, 1) := by decide +kernel
theorem dX5_longList_58 : decode cX5_longList 58 = .ok (.goto 4, 3) := by decide +kernel
theorem dX5_longList_61 : decode cX5_longList 61 = .ok (.iconst 0, 1) := by decide +kernel
theorem dX5_longList_62 : decode cX5_longList 62 = .ok (.iand, 1) := by decide +kernel
theorem dX5_longList_63 : decode cX5_longList 63 = .ok (.istore_n 2, 1) := by decide +kernel
theorem dX5_longList_64 : decode cX5_longList 64 = .ok (.iinc 3 1, 3) := by decide +kernel
theorem dX5_longList_67 : decode cX5_longList 67 = .ok (.goto (-30), 3) := by decide +kernel
theorem dX5_longList_70 : decode cX5_longList 70 = .ok (.iload_n 2, 1) := by decide +kernel
theorem dX5_longList_71 : decode cX5_longList 71 = .ok (.ifCond .ne 9, 3) := by decide +kernel
theorem dX5_longList_74 : decode cX5_longList 74 = .ok (.aload_n 0, 1) := by decide +kernel
theorem dX5_longList_75 : decode cX5_longList 75 = .ok (.iconst 2, 1) := by decide +kernel
theorem dX5_longList_76 : decode cX5_longList 76 = .ok (.invokevirtual 86, 3) := by decide +kernel
theorem dX5_longList_79 : decode cX5_longList 79 = .ok (.ireturn, 1) := by decide +kernel
theorem dX5_longList_80 : decode cX5_longList 80 = .ok (.iconst 0, 1) := by decide +kernel
theorem dX5_longList_81 : decode cX5_longList 81 = .ok (.istore_n 3, 1) := by decide +kernel
theorem dX5_longList_82 : decode cX5_longList 82 = .ok (.aload_n 0, 1) := by decide +kernel
theorem dX5_longList_83 : decode cX5_longList 83 = .ok (.getfield 77, 3) := by decide +kernel
theorem dX5_longList_86 : decode cX5_longList 86 = .ok (.invokestatic 111, 3) := by decide +kernel
theorem dX5_longList_89 : decode cX5_longList 89 = .ok (.iload_n 1, 1) := by decide +kernel
theorem dX5_longList_90 : decode cX5_longList 90 = .ok (.if_icmp .ge 214, 3) := by decide +kernel
theorem dX5_longList_93 : decode cX5_longList 93 = .ok (.iconst (-1), 1) := by decide +kernel
theorem dX5_longList_94 : decode cX5_longList 94 = .ok (.istore 4, 2) := by decide +kernel
theorem dX5_longList_96 : decode cX5_longList 96 = .ok (.iconst 0, 1) := by decide +kernel
theorem dX5_longList_97 : decode cX5_longList 97 = .ok (.istore 5, 2) := by decide +kernel
theorem dX5_longList_99 : decode cX5_longList 99 = .ok (.iload 5, 2) := by decide +kernel
theorem dX5_longList_101 : decode cX5_longList 101 = .ok (.aload_n 0, 1) := by decide +kernel
theorem dX5_longList_102 : decode cX5_longList 102 = .ok (.getfield 16, 3) := by decide +kernel
theorem dX5_longList_105 : decode cX5_longList 105 = .ok (.invokevirtual 53, 3) := by decide +kernel
theorem dX5_longList_108 : decode cX5_longList 108 = .ok (.if_icmp .ge 80, 3) := by decide +kernel
theorem dX5_longList_111 : decode cX5_longList 111 = .ok (.iload_n 3, 1) := by decide +kernel
theorem dX5_longList_112 : decode cX5_longList 112 = .ok (.iload 5, 2) := by decide +kernel
theorem dX5_longList_114 : decode cX5_longList 114 = .ok (.ishr, 1) := by decide +kernel
theorem dX5_longList_115 : decode cX5_longList 115 = .ok (.iconst 1, 1) := by decide +kernel
theorem dX5_longList_116 : decode cX5_longList 116 = .ok (.iand, 1) := by decide +kernel
theorem dX5_longList_117 : decode cX5_longList 117 = .ok (.iconst 1, 1) := by decide +kernel
theorem dX5_longList_118 : decode cX5_longList 118 = .ok (.if_icmp .eq 64, 3) := by decide +kernel
theorem dX5_longList_121 : decode cX5_longList 121 = .ok (.aload_n 0, 1) := by decide +kernel
theorem dX5_longList_122 : decode cX5_longList 122 = .ok (.iload 5, 2) := by decide +kernel
theorem dX5_longList_124 : decode cX5_longList 124 = .ok (.invokevirtual 131, 3) := by decide +kernel
theorem dX5_longList_127 : decode cX5_longList 127 = .ok (.ifCond .eq 55, 3) := by decide +kernel
theorem dX5_longList_130 : decode cX5_longList 130 = .ok (.aload_n 0, 1) := by decide +kernel
theorem dX5_longList_131 : decode cX5_longList 131 = .ok (.iload 5, 2) := by decide +kernel
theorem dX5_longList_133 : decode cX5_longList 133 = .ok (.invokevirtual 198, 3) := by decide +kernel
theorem dX5_longList_136 : decode cX5_longList 136 = .ok (.aload_n 0, 1) := by decide +kernel
theorem dX5_longList_137 : decode cX5_longList 137 = .ok (.iload 5, 2) := by decide +kernel
theorem dX5_longList_139 : decode cX5_longList 139 = .ok (.invokevirtual 207, 3) := by decide +kernel
theorem dX5_longList_142 : decode cX5_longList 142 = .ok (.iconst 1, 1) := by decide +kernel
theorem dX5_longList_143 : decode cX5_longList 143 = .ok (.if_icmp .ne 7, 3) := by decide +kernel
theorem dX5_longList_146 : decode cX5_longList 146 = .ok (.iconst 1, 1) := by decide +kernel
theorem dX5_longList_147 : decode cX5_longList 147 = .ok (.goto 4, 3) := by decide +kernel
theorem dX5_longList_150 : decode cX5_longList 150 = .ok (.iconst 2, 1) := by decide +kernel
theorem dX5_longList_151 : decode cX5_longList 151 = .ok (.if_icmp .ge 6, 3) := by decide +kernel
theorem dX5_longList_154 : decode cX5_longList 154 = .ok (.goto 28, 3) := by decide +kernel
theorem dX5_longList_157 : decode cX5_longList 157 = .ok (.iload 4, 2) := by decide +kernel
theorem dX5_longList_159 : decode cX5_longList 159 = .ok (.iconst (-1), 1) := by decide +kernel
theorem dX5_longList_160 : decode cX5_longList 160 = .ok (.if_icmp .eq 18, 3) := by decide +kernel
theorem dX5_longList_163 : decode cX5_longList 163 = .ok (.aload_n 0, 1) := by decide +kernel
theorem dX5_longList_164 : decode cX5_longList 164 = .ok (.iload 5, 2) := by decide +kernel
theorem dX5_longList_166 : decode cX5_longList 166 = .ok (.invokevirtual 210, 3) := by decide +kernel
theorem dX5_longList_169 : decode cX5_longList 169 = .ok (.aload_n 0, 1) := by decide +kernel
theorem dX5_longList_170 : decode cX5_longList 170 = .ok (.iload 4, 2) := by decide +kernel
theorem dX5_longList_172 : decode cX5_longList 172 = .ok (.invokevirtual 210, 3) := by decide +kernel
theorem dX5_longList_175 : decode cX5_longList 175 = .ok (.if_icmp .le 7, 3) := by decide +kernel
theorem dX5_longList_178 : decode cX5_longList 178 = .ok (.iload 5, 2) := by decide +kernel
theorem dX5_longList_180 : decode cX5_longList 180 = .ok (.istore 4, 2) := by decide +kernel
theorem dX5_longList_182 : decode cX5_longList 182 = .ok (.iinc 5 1, 3) := by decide +kernel
theorem dX5_longList_185 : decode cX5_longList 185 = .ok (.goto (-86), 3) := by decide +kernel
theorem dX5_longList_188 : decode cX5_longList 188 = .ok (.iload 4, 2) := by decide +kernel
theorem dX5_longList_190 : decode cX5_longList 190 = .ok (.iconst (-1), 1) := by decide +kernel
theorem dX5_longList_191 : decode cX5_longList 191 = .ok (.if_icmp .ne 6, 3) := by decide +kernel
theorem dX5_longList_194 : decode cX5_longList 194 = .ok (.goto 110, 3) := by decide +kernel
theorem dX5_longList_197 : decode cX5_longList 197 = .ok (.iload_n 3, 1) := by decide +kernel
theorem dX5_longList_198 : decode cX5_longList 198 = .ok (.iconst 1, 1) := by decide +kernel
theorem dX5_longList_199 : decode cX5_longList 199 = .ok (.iload 4, 2) := by decide +kernel
theorem dX5_longList_201 : decode cX5_longList 201 = .ok (.ishl, 1) := by decide +kernel
theorem dX5_longList_202 : decode cX5_longList 202 = .ok (.ior, 1) := by decide +kernel
theorem dX5_longList_203 : decode cX5_longList 203 = .ok (.istore_n 3, 1) := by decide +kernel
theorem dX5_longList_204 : decode cX5_longList 204 = .ok (.iconst 0, 1) := by decide +kernel
theorem dX5_longList_205 : decode cX5_longList 205 = .ok (.istore 5, 2) := by decide +kernel
theorem dX5_longList_207 : decode cX5_longList 207 = .ok (.iconst 0, 1) := by decide +kernel
theorem dX5_longList_208 : decode cX5_longList 208 = .ok (.istore 6, 2) := by decide +kernel
theorem dX5_longList_210 : decode cX5_longList 210 = .ok (.iload 6, 2) := by decide +kernel
theorem dX5_longList_212 : decode cX5_longList 212 = .ok (.aload_n 0, 1) := by decide +kernel
theorem dX5_longList_213 : decode cX5_longList 213 = .ok (.getfield 16, 3) := by decide +kernel
theorem dX5_longList_216 : decode cX5_longList 216 = .ok (.invokevirtual 53, 3) := by decide +kernel
theorem dX5_longList_219 : decode cX5_longList 219 = .ok (.if_icmp .ge 63, 3) := by decide +kernel
theorem dX5_longList_222 : decode cX5_longList 222 = .ok (.iload 5, 2) := by decide +kernel
theorem dX5_longList_224 : decode cX5_longList 224 = .ok (.aload_n 0, 1) := by decide +kernel
theorem dX5_longList_225 : decode cX5_longList 225 = .ok (.getfield 77, 3) := by decide +kernel
theorem dX5_longList_228 : decode cX5_longList 228 = .ok (.iload 6, 2) := by decide +kernel
theorem dX5_longList_230 : decode cX5_longList 230 = .ok (.ishr, 1) := by decide +kernel
theorem dX5_longList_231 : decode cX5_longList 231 = .ok (.iconst 1, 1) := by decide +kernel
theorem dX5_longList_232 : decode cX5_longList 232 = .ok (.iand, 1) := by decide +kernel
theorem dX5_longList_233 : decode cX5_longList 233 = .ok (.iconst 1, 1) := by decide +kernel
theorem dX5_longList_234 : decode cX5_longList 234 = .ok (.if_icmp .ne 38, 3) := by decide +kernel
theorem dX5_longList_237 : decode cX5_longList 237 = .ok (.aload_n 0, 1) := by decide +kernel
theorem dX5_longList_238 : decode cX5_longList 238 = .ok (.getfield 16, 3) := by decide +kernel
theorem dX5_longList_241 : decode cX5_longList 241 = .ok (.iload 6, 2) := by decide +kernel
theorem dX5_longList_243 : decode cX5_longList 243 = .ok (.invokevirtual 107, 3) := by decide +kernel
theorem dX5_longList_246 : decode cX5_longList 246 = .ok (.checkcast 76, 3) := by decide +kernel
theorem dX5_longList_249 : decode cX5_longList 249 = .ok (.iconst 0, 1) := by decide +kernel
theorem dX5_longList_250 : decode cX5_longList 250 = .ok (.iaload, 1) := by decide +kernel
theorem dX5_longList_251 : decode cX5_longList 251 = .ok (.aload_n 0, 1) := by decide +kernel
theorem dX5_longList_252 : decode cX5_longList 252 = .ok (.getfield 16, 3) := by decide +kernel
theorem dX5_longList_255 : decode cX5_longList 255 = .ok (.iload 4, 2) := by decide +kernel
theorem dX5_longList_257 : decode cX5_longList 257 = .ok (.invokevirtual 107, 3) := by decide +kernel
theorem dX5_longList_260 : decode cX5_longList 260 = .ok (.checkcast 76, 3) := by decide +kernel
theorem dX5_longList_263 : decode cX5_longList 263 = .ok (.iconst 0, 1) := by decide +kernel
theorem dX5_longList_264 : decode cX5_longList 264 = .ok (.iaload, 1) := by decide +kernel
theorem dX5_longList_265 : decode cX5_longList 265 = .ok (.if_icmp .ne 7, 3) := by decide +kernel
theorem dX5_longList_268 : decode cX5_longList 268 = .ok (.iconst 1, 1) := by decide +kernel
theorem dX5_longList_269 : decode cX5_longList 269 = .ok (.goto 4, 3) := by decide +kernel
theorem dX5_longList_272 : decode cX5_longList 272 = .ok (.iconst 0, 1) := by decide +kernel
theorem dX5_longList_273 : decode cX5_longList 273 = .ok (.iadd, 1) := by decide +kernel
theorem dX5_longList_274 : decode cX5_longList 274 = .ok (.istore 5, 2) := by decide +kernel
theorem dX5_longList_276 : decode cX5_longList 276 = .ok (.iinc 6 1, 3) := by decide +kernel
theorem dX5_longList_279 : decode cX5_longList 279 = .ok (.goto (-69), 3) := by decide +kernel
theorem dX5_longList_282 : decode cX5_longList 282 = .ok (.iload 5, 2) := by decide +kernel
theorem dX5_longList_284 : decode cX5_longList 284 = .ok (.iconst 2, 1) := by decide +kernel
theorem dX5_longList_285 : decode cX5_longList 285 = .ok (.if_icmp .ge 16, 3) := by decide +kernel
theorem dX5_longList_288 : decode cX5_longList 288 = .ok (.aload_n 0, 1) := by decide +kernel
theorem dX5_longList_289 : decode cX5_longList 289 = .ok (.dup, 1) := by decide +kernel
theorem dX5_longList_290 : decode cX5_longList 290 = .ok (.getfield 77, 3) := by decide +kernel
theorem dX5_longList_293 : decode cX5_longList 293 = .ok (.iconst 1, 1) := by decide +kernel
theorem dX5_longList_294 : decode cX5_longList 294 = .ok (.iload 4, 2) := by decide +kernel
theorem dX5_longList_296 : decode cX5_longList 296 = .ok (.ishl, 1) := by decide +kernel
theorem dX5_longList_297 : decode cX5_longList 297 = .ok (.ior, 1) := by decide +kernel
theorem dX5_longList_298 : decode cX5_longList 298 = .ok (.putfield 77, 3) := by decide +kernel
theorem dX5_longList_301 : decode cX5_longList 301 = .ok (.goto (-219), 3) := by decide +kernel
theorem dX5_longList_304 : decode cX5_longList 304 = .ok (.aload_n 0, 1) := by decide +kernel
theorem dX5_longList_305 : decode cX5_longList 305 = .ok (.iconst 2, 1) := by decide +kernel
theorem dX5_longList_306 : decode cX5_longList 306 = .ok (.putfield 101, 3) := by decide +kernel
theorem dX5_longList_309 : decode cX5_longList 309 = .ok (.aload_n 0, 1) := by decide +kernel
theorem dX5_longList_310 : decode cX5_longList 310 = .ok (.getfield 77, 3) := by decide +kernel
theorem dX5_longList_313 : decode cX5_longList 313 = .ok (.invokestatic 111, 3) := by decide +kernel
theorem dX5_longList_316 : decode cX5_longList 316 = .ok (.ireturn, 1) := by decide +kernel
theorem dX5_spent_0 : decode cX5_spent 0 = .ok (.iconst 0, 1) := by decide +kernel
theorem dX5_spent_1 : decode cX5_spent 1 = .ok (.istore_n 2, 1) := by decide +kernel
theorem dX5_spent_2 : decode cX5_spent 2 = .ok (.aload_n 0, 1) := by decide +kernel
theorem dX5_spent_3 : decode cX5_spent 3 = .ok (.getfield 37, 3) := by decide +kernel
theorem dX5_spent_6 : decode cX5_spent 6 = .ok (.iload_n 1, 1) := by decide +kernel
theorem dX5_spent_7 : decode cX5_spent 7 = .ok (.aaload, 1) := by decide +kernel
theorem dX5_spent_8 : decode cX5_spent 8 = .ok (.astore_n 3, 1) := by decide +kernel
theorem dX5_spent_9 : decode cX5_spent 9 = .ok (.aload_n 3, 1) := by decide +kernel
theorem dX5_spent_10 : decode cX5_spent 10 = .ok (.arraylength, 1) := by decide +kernel
theorem dX5_spent_11 : decode cX5_spent 11 = .ok (.istore 4, 2) := by decide +kernel
theorem dX5_spent_13 : decode cX5_spent 13 = .ok (.iconst 0, 1) := by decide +kernel
theorem dX5_spent_14 : decode cX5_spent 14 = .ok (.istore 5, 2) := by decide +kernel
theorem dX5_spent_16 : decode cX5_spent 16 = .ok (.iload 5, 2) := by decide +kernel
theorem dX5_spent_18 : decode cX5_spent 18 = .ok (.iload 4, 2) := by decide +kernel
theorem dX5_spent_20 : decode cX5_spent 20 = .ok (.if_icmp .ge 20, 3) := by decide +kernel
theorem dX5_spent_23 : decode cX5_spent 23 = .ok (.aload_n 3, 1) := by decide +kernel
theorem dX5_spent_24 : decode cX5_spent 24 = .ok (.iload 5, 2) := by decide +kernel
theorem dX5_spent_26 : decode cX5_spent 26 = .ok (.iaload, 1) := by decide +kernel
theorem dX5_spent_27 : decode cX5_spent 27 = .ok (.istore 6, 2) := by decide +kernel
theorem dX5_spent_29 : decode cX5_spent 29 = .ok (.iload_n 2, 1) := by decide +kernel
theorem dX5_spent_30 : decode cX5_spent 30 = .ok (.iload 6, 2) := by decide +kernel
theorem dX5_spent_32 : decode cX5_spent 32 = .ok (.iadd, 1) := by decide +kernel
theorem dX5_spent_33 : decode cX5_spent 33 = .ok (.istore_n 2, 1) := by decide +kernel
theorem dX5_spent_34 : decode cX5_spent 34 = .ok (.iinc 5 1, 3) := by decide +kernel
theorem dX5_spent_37 : decode cX5_spent 37 = .ok (.goto (-21), 3) := by decide +kernel
theorem dX5_spent_40 : decode cX5_spent 40 = .ok (.iload_n 2, 1) := by decide +kernel
theorem dX5_spent_41 : decode cX5_spent 41 = .ok (.ireturn, 1) := by decide +kernel
set_option maxRecDepth 20000 in
theorem ggX5_points_X5_isJudge : GoodIn wsX5_points wsX5_isJudge := goodIn_r _ [9, 10, 11, 12, 13, 14, 15, 16, 17, 18, 8, 19, 55, 56, 57, 58, 59, 60, 61, 62, 63, 64, 65, 66, 67, 68, 69, 70, 71, 72, 73, 74, 75, 76, 77] (by decide +kernel) (by decide +kernel)
set_option maxRecDepth 20000 in
theorem gX5_points_X5_isJudge : GoodIn wsX5_points (wsV RX5 104 RX5 yX5_isJudge wsX5_isJudge) := goodIn_app (goodIn_of _ (by decide +kernel)) ggX5_points_X5_isJudge
set_option maxRecDepth 20000 in
theorem ggX5_points_X5_isBook : GoodIn wsX5_points wsX5_isBook := goodIn_r _ [23, 24, 11, 12, 13, 14, 15, 16, 17, 18, 8, 19, 55, 56, 57, 58, 59, 60, 61, 62, 63, 64, 65, 66, 67, 68, 69, 70, 71, 72, 73, 74, 75, 76, 77] (by decide +kernel) (by decide +kernel)
set_option maxRecDepth 20000 in
theorem gX5_points_X5_isBook : GoodIn wsX5_points (wsV RX5 141 RX5 yX5_isBook wsX5_isBook) := goodIn_app (goodIn_of _ (by decide +kernel)) ggX5_points_X5_isBook
set_option maxRecDepth 20000 in
theorem ggX5_points_X5_refuse : GoodIn wsX5_points wsX5_refuse := goodIn_r _ [28, 1, 55, 56, 57, 58, 59, 60, 61, 62, 63, 64, 65, 66, 67, 68, 69, 70, 71, 72, 73, 74] (by decide +kernel) (by decide +kernel)
set_option maxRecDepth 20000 in
theorem gX5_points_X5_refuse : GoodIn wsX5_points (wsV RX5 86 RX5 yX5_refuse wsX5_refuse) := goodIn_app (goodIn_of _ (by decide +kernel)) ggX5_points_X5_refuse
set_option maxRecDepth 20000 in
theorem ggX5_points_X5_is : GoodIn wsX5_points wsX5_is := goodIn_r _ [19] (by decide +kernel) (by decide +kernel)
set_option maxRecDepth 20000 in
theorem gX5_points_X5_is : GoodIn wsX5_points (va_wsS RX5 57 yX5_is wsX5_is) := goodIn_app (goodIn_of _ (by decide +kernel)) ggX5_points_X5_is
set_option maxRecDepth 20000 in
theorem ggX5_points_X5_isConflict : GoodIn wsX5_points wsX5_isConflict := goodIn_r _ [32, 10, 33, 24, 34, 35, 36, 14, 37, 16, 38, 39, 40, 41, 42, 43, 44, 45, 46, 47, 48, 49, 50, 55, 56, 57, 58, 59, 60, 61, 62, 63, 64, 65, 66, 67, 68, 69, 70, 71, 72, 73, 74, 75, 76, 77] (by decide +kernel) (by decide +kernel)
set_option maxRecDepth 20000 in
theorem gX5_points_X5_isConflict : GoodIn wsX5_points (wsV RX5 153 RX5 yX5_isConflict wsX5_isConflict) := goodIn_app (goodIn_of _ (by decide +kernel)) ggX5_points_X5_isConflict
set_option maxRecDepth 20000 in
theorem ggX5_points_X5_spent : GoodIn wsX5_points wsX5_spent := goodIn_r _ [54, 4, 55, 56, 57, 58, 59, 60, 61, 62, 63, 64, 65, 66, 67, 68, 69, 70, 71, 72, 73, 74] (by decide +kernel) (by decide +kernel)
set_option maxRecDepth 20000 in
theorem gX5_points_X5_spent : GoodIn wsX5_points (wsV RX5 213 RX5 yX5_spent wsX5_spent) := goodIn_app (goodIn_of _ (by decide +kernel)) ggX5_points_X5_spent
theorem dX5_points_0 : decode cX5_points 0 = .ok (.aload_n 0, 1) := by decide +kernel
theorem dX5_points_1 : decode cX5_points 1 = .ok (.iconst 0, 1) := by decide +kernel
theorem dX5_points_2 : decode cX5_points 2 = .ok (.putfield 50, 3) := by decide +kernel
theorem dX5_points_5 : decode cX5_points 5 = .ok (.aload_n 0, 1) := by decide +kernel
theorem dX5_points_6 : decode cX5_points 6 = .ok (.iload_n 1, 1) := by decide +kernel
theorem dX5_points_7 : decode cX5_points 7 = .ok (.invokevirtual 104, 3) := by decide +kernel
theorem dX5_points_10 : decode cX5_points 10 = .ok (.ifCond .eq 30, 3) := by decide +kernel
theorem dX5_points_13 : decode cX5_points 13 = .ok (.aload_n 0, 1) := by decide +kernel
theorem dX5_points_14 : decode cX5_points 14 = .ok (.iload_n 2, 1) := by decide +kernel
theorem dX5_points_15 : decode cX5_points 15 = .ok (.invokevirtual 141, 3) := by decide +kernel
theorem dX5_points_18 : decode cX5_points 18 = .ok (.ifCond .eq 22, 3) := by decide +kernel
theorem dX5_points_21 : decode cX5_points 21 = .ok (.aload_n 0, 1) := by decide +kernel
theorem dX5_points_22 : decode cX5_points 22 = .ok (.getfield 101, 3) := by decide +kernel
theorem dX5_points_25 : decode cX5_points 25 = .ok (.iconst 2, 1) := by decide +kernel
theorem dX5_points_26 : decode cX5_points 26 = .ok (.if_icmp .ne 14, 3) := by decide +kernel
theorem dX5_points_29 : decode cX5_points 29 = .ok (.aload_n 0, 1) := by decide +kernel
theorem dX5_points_30 : decode cX5_points 30 = .ok (.getfield 77, 3) := by decide +kernel
theorem dX5_points_33 : decode cX5_points 33 = .ok (.iload_n 2, 1) := by decide +kernel
theorem dX5_points_34 : decode cX5_points 34 = .ok (.ishr, 1) := by decide +kernel
theorem dX5_points_35 : decode cX5_points 35 = .ok (.iconst 1, 1) := by decide +kernel
theorem dX5_points_36 : decode cX5_points 36 = .ok (.iand, 1) := by decide +kernel
theorem dX5_points_37 : decode cX5_points 37 = .ok (.ifCond .ne 9, 3) := by decide +kernel
theorem dX5_points_40 : decode cX5_points 40 = .ok (.aload_n 0, 1) := by decide +kernel
theorem dX5_points_41 : decode cX5_points 41 = .ok (.iconst 1, 1) := by decide +kernel
theorem dX5_points_42 : decode cX5_points 42 = .ok (.invokevirtual 86, 3) := by decide +kernel
theorem dX5_points_45 : decode cX5_points 45 = .ok (.ireturn, 1) := by decide +kernel
theorem dX5_points_46 : decode cX5_points 46 = .ok (.iload_n 3, 1) := by decide +kernel
theorem dX5_points_47 : decode cX5_points 47 = .ok (.iconst 0, 1) := by decide +kernel
theorem dX5_points_48 : decode cX5_points 48 = .ok (.bipush 12, 2) := by decide +kernel
theorem dX5_points_50 : decode cX5_points 50 = .ok (.invokestatic 57, 3) := by decide +kernel
theorem dX5_points_53 : decode cX5_points 53 = .ok (.ifCond .ne 9, 3) := by decide +kernel
theorem dX5_points_56 : decode cX5_points 56 = .ok (.aload_n 0, 1) := by decide +kernel
theorem dX5_points_57 : decode cX5_points 57 = .ok (.iconst 2, 1) := by decide +kernel
theorem dX5_points_58 : decode cX5_points 58 = .ok (.invokevirtual 86, 3) := by decide +kernel
theorem dX5_points_61 : decode cX5_points 61 = .ok (.ireturn, 1) := by decide +kernel
theorem dX5_points_62 : decode cX5_points 62 = .ok (.aload_n 0, 1) := by decide +kernel
theorem dX5_points_63 : decode cX5_points 63 = .ok (.iload_n 1, 1) := by decide +kernel
theorem dX5_points_64 : decode cX5_points 64 = .ok (.iload_n 2, 1) := by decide +kernel
theorem dX5_points_65 : decode cX5_points 65 = .ok (.invokevirtual 153, 3) := by decide +kernel
theorem dX5_points_68 : decode cX5_points 68 = .ok (.ifCond .ne 24, 3) := by decide +kernel
theorem dX5_points_71 : decode cX5_points 71 = .ok (.aload_n 0, 1) := by decide +kernel
theorem dX5_points_72 : decode cX5_points 72 = .ok (.iload_n 1, 1) := by decide +kernel
theorem dX5_points_73 : decode cX5_points 73 = .ok (.invokevirtual 213, 3) := by decide +kernel
theorem dX5_points_76 : decode cX5_points 76 = .ok (.aload_n 0, 1) := by decide +kernel
theorem dX5_points_77 : decode cX5_points 77 = .ok (.getfield 37, 3) := by decide +kernel
theorem dX5_points_80 : decode cX5_points 80 = .ok (.iload_n 1, 1) := by decide +kernel
theorem dX5_points_81 : decode cX5_points 81 = .ok (.aaload, 1) := by decide +kernel
theorem dX5_points_82 : decode cX5_points 82 = .ok (.iload_n 2, 1) := by decide +kernel
theorem dX5_points_83 : decode cX5_points 83 = .ok (.iaload, 1) := by decide +kernel
theorem dX5_points_84 : decode cX5_points 84 = .ok (.isub, 1) := by decide +kernel
theorem dX5_points_85 : decode cX5_points 85 = .ok (.iload_n 3, 1) := by decide +kernel
theorem dX5_points_86 : decode cX5_points 86 = .ok (.iadd, 1) := by decide +kernel
theorem dX5_points_87 : decode cX5_points 87 = .ok (.bipush 12, 2) := by decide +kernel
theorem dX5_points_89 : decode cX5_points 89 = .ok (.if_icmp .le 9, 3) := by decide +kernel
theorem dX5_points_92 : decode cX5_points 92 = .ok (.aload_n 0, 1) := by decide +kernel
theorem dX5_points_93 : decode cX5_points 93 = .ok (.iconst 3, 1) := by decide +kernel
theorem dX5_points_94 : decode cX5_points 94 = .ok (.invokevirtual 86, 3) := by decide +kernel
theorem dX5_points_97 : decode cX5_points 97 = .ok (.ireturn, 1) := by decide +kernel
theorem dX5_points_98 : decode cX5_points 98 = .ok (.aload_n 0, 1) := by decide +kernel
theorem dX5_points_99 : decode cX5_points 99 = .ok (.getfield 37, 3) := by decide +kernel
theorem dX5_points_102 : decode cX5_points 102 = .ok (.iload_n 1, 1) := by decide +kernel
theorem dX5_points_103 : decode cX5_points 103 = .ok (.aaload, 1) := by decide +kernel
theorem dX5_points_104 : decode cX5_points 104 = .ok (.iload_n 2, 1) := by decide +kernel
theorem dX5_points_105 : decode cX5_points 105 = .ok (.iload_n 3, 1) := by decide +kernel
theorem dX5_points_106 : decode cX5_points 106 = .ok (.iastore, 1) := by decide +kernel
theorem dX5_points_107 : decode cX5_points 107 = .ok (.bipush 12, 2) := by decide +kernel
theorem dX5_points_109 : decode cX5_points 109 = .ok (.aload_n 0, 1) := by decide +kernel
theorem dX5_points_110 : decode cX5_points 110 = .ok (.iload_n 1, 1) := by decide +kernel
theorem dX5_points_111 : decode cX5_points 111 = .ok (.invokevirtual 213, 3) := by decide +kernel
theorem dX5_points_114 : decode cX5_points 114 = .ok (.isub, 1) := by decide +kernel
theorem dX5_points_115 : decode cX5_points 115 = .ok (.ireturn, 1) := by decide +kernel
set_option maxRecDepth 20000 in
theorem ggX5_pointsOf_Jx4a65c_size_8abf5 : GoodIn wsX5_pointsOf wsJx4a65c_size_8abf5 := goodIn_r _ [7, 8, 57, 58, 59] (by decide +kernel) (by decide +kernel)
set_option maxRecDepth 20000 in
theorem gX5_pointsOf_Jx4a65c_size_8abf5 : GoodIn wsX5_pointsOf (wsV RX5 53 RJx4a65c yJx4a65c_size_8abf5 wsJx4a65c_size_8abf5) := goodIn_app (goodIn_of _ (by decide +kernel)) ggX5_pointsOf_Jx4a65c_size_8abf5
set_option maxRecDepth 20000 in
theorem ggX5_pointsOf_X5_isConflict : GoodIn wsX5_pointsOf wsX5_isConflict := goodIn_r _ [13, 1, 14, 15, 16, 17, 18, 6, 19, 8, 20, 21, 22, 23, 24, 25, 26, 27, 28, 29, 30, 31, 32, 37, 38, 39, 40, 41, 42, 43, 44, 45, 46, 47, 48, 49, 50, 51, 52, 53, 54, 55, 56, 57, 58, 59] (by decide +kernel) (by decide +kernel)
set_option maxRecDepth 20000 in
theorem gX5_pointsOf_X5_isConflict : GoodIn wsX5_pointsOf (wsV RX5 153 RX5 yX5_isConflict wsX5_isConflict) := goodIn_app (goodIn_of _ (by decide +kernel)) ggX5_pointsOf_X5_isConflict
set_option maxRecDepth 20000 in
theorem ggX5_pointsOf_J6_signum_0f7a4 : GoodIn wsX5_pointsOf wsJ6_signum_0f7a4 := goodIn_r _ [36] (by decide +kernel) (by decide +kernel)
set_option maxRecDepth 20000 in
theorem gX5_pointsOf_J6_signum_0f7a4 : GoodIn wsX5_pointsOf (va_wsS RX5 216 yJ6_signum_0f7a4 wsJ6_signum_0f7a4) := goodIn_app (goodIn_of _ (by decide +kernel)) ggX5_pointsOf_J6_signum_0f7a4
theorem dX5_pointsOf_0 : decode cX5_pointsOf 0 = .ok (.iconst 0, 1) := by decide +kernel
theorem dX5_pointsOf_1 : decode cX5_pointsOf 1 = .ok (.istore_n 3, 1) := by decide +kernel
theorem dX5_pointsOf_2 : decode cX5_pointsOf 2 = .ok (.iconst 0, 1) := by decide +kernel
theorem dX5_pointsOf_3 : decode cX5_pointsOf 3 = .ok (.istore 4, 2) := by decide +kernel
theorem dX5_pointsOf_5 : decode cX5_pointsOf 5 = .ok (.iload 4, 2) := by decide +kernel
theorem dX5_pointsOf_7 : decode cX5_pointsOf 7 = .ok (.aload_n 0, 1) := by decide +kernel
theorem dX5_pointsOf_8 : decode cX5_pointsOf 8 = .ok (.getfield 19, 3) := by decide +kernel
theorem dX5_pointsOf_11 : decode cX5_pointsOf 11 = .ok (.invokevirtual 53, 3) := by decide +kernel
theorem dX5_pointsOf_14 : decode cX5_pointsOf 14 = .ok (.if_icmp .ge 51, 3) := by decide +kernel
theorem dX5_pointsOf_17 : decode cX5_pointsOf 17 = .ok (.aload_n 0, 1) := by decide +kernel
theorem dX5_pointsOf_18 : decode cX5_pointsOf 18 = .ok (.iload 4, 2) := by decide +kernel
theorem dX5_pointsOf_20 : decode cX5_pointsOf 20 = .ok (.iload_n 1, 1) := by decide +kernel
theorem dX5_pointsOf_21 : decode cX5_pointsOf 21 = .ok (.invokevirtual 153, 3) := by decide +kernel
theorem dX5_pointsOf_24 : decode cX5_pointsOf 24 = .ok (.ifCond .eq 7, 3) := by decide +kernel
theorem dX5_pointsOf_27 : decode cX5_pointsOf 27 = .ok (.iconst 0, 1) := by decide +kernel
theorem dX5_pointsOf_28 : decode cX5_pointsOf 28 = .ok (.goto 12, 3) := by decide +kernel
theorem dX5_pointsOf_31 : decode cX5_pointsOf 31 = .ok (.aload_n 0, 1) := by decide +kernel
theorem dX5_pointsOf_32 : decode cX5_pointsOf 32 = .ok (.getfield 37, 3) := by decide +kernel
theorem dX5_pointsOf_35 : decode cX5_pointsOf 35 = .ok (.iload 4, 2) := by decide +kernel
theorem dX5_pointsOf_37 : decode cX5_pointsOf 37 = .ok (.aaload, 1) := by decide +kernel
theorem dX5_pointsOf_38 : decode cX5_pointsOf 38 = .ok (.iload_n 1, 1) := by decide +kernel
theorem dX5_pointsOf_39 : decode cX5_pointsOf 39 = .ok (.iaload, 1) := by decide +kernel
theorem dX5_pointsOf_40 : decode cX5_pointsOf 40 = .ok (.istore 5, 2) := by decide +kernel
theorem dX5_pointsOf_42 : decode cX5_pointsOf 42 = .ok (.iload_n 3, 1) := by decide +kernel
theorem dX5_pointsOf_43 : decode cX5_pointsOf 43 = .ok (.iload_n 2, 1) := by decide +kernel
theorem dX5_pointsOf_44 : decode cX5_pointsOf 44 = .ok (.ifCond .eq 8, 3) := by decide +kernel
theorem dX5_pointsOf_47 : decode cX5_pointsOf 47 = .ok (.iload 5, 2) := by decide +kernel
theorem dX5_pointsOf_49 : decode cX5_pointsOf 49 = .ok (.goto 8, 3) := by decide +kernel
theorem dX5_pointsOf_52 : decode cX5_pointsOf 52 = .ok (.iload 5, 2) := by decide +kernel
theorem dX5_pointsOf_54 : decode cX5_pointsOf 54 = .ok (.invokestatic 216, 3) := by decide +kernel
theorem dX5_pointsOf_57 : decode cX5_pointsOf 57 = .ok (.iadd, 1) := by decide +kernel
theorem dX5_pointsOf_58 : decode cX5_pointsOf 58 = .ok (.istore_n 3, 1) := by decide +kernel
theorem dX5_pointsOf_59 : decode cX5_pointsOf 59 = .ok (.iinc 4 1, 3) := by decide +kernel
theorem dX5_pointsOf_62 : decode cX5_pointsOf 62 = .ok (.goto (-57), 3) := by decide +kernel
theorem dX5_pointsOf_65 : decode cX5_pointsOf 65 = .ok (.iload_n 3, 1) := by decide +kernel
theorem dX5_pointsOf_66 : decode cX5_pointsOf 66 = .ok (.ireturn, 1) := by decide +kernel
set_option maxRecDepth 20000 in
theorem ggX5_isAhead_X5_pointsOf : GoodIn wsX5_isAhead wsX5_pointsOf := goodIn_r _ [5, 6, 7, 8, 9, 10, 11, 12, 13, 14, 15, 16, 4, 17, 18, 19, 20, 21, 22, 23, 24, 25, 26, 27, 28, 29, 30, 31, 32, 33, 34, 35, 36, 37, 38, 39, 40, 62, 63, 64, 65, 66, 67, 68, 69, 70, 71, 72, 73, 74, 75, 76, 77, 78, 79, 80, 81, 82, 83, 84] (by decide +kernel) (by decide +kernel)
set_option maxRecDepth 20000 in
theorem gX5_isAhead_X5_pointsOf : GoodIn wsX5_isAhead (wsV RX5 219 RX5 yX5_pointsOf wsX5_pointsOf) := goodIn_app (goodIn_of _ (by decide +kernel)) ggX5_isAhead_X5_pointsOf
set_option maxRecDepth 20000 in
theorem ggX5_isAhead_X5_score : GoodIn wsX5_isAhead wsX5_score := goodIn_r _ [44, 6, 45, 8, 9, 10, 11, 12, 13, 46, 47, 48, 4, 49, 14, 15, 16, 17, 18, 19, 20, 21, 22, 23, 24, 25, 26, 27, 28, 29, 30, 31, 32, 33, 34, 35, 36, 50, 51, 52, 53, 54, 55, 56, 57, 58, 59, 60, 61, 62, 63, 64, 65, 66, 67, 68, 69, 70, 71, 72, 73, 74, 75, 76, 77, 78, 79, 80, 81, 82, 83, 84] (by decide +kernel) (by decide +kernel)
set_option maxRecDepth 20000 in
theorem gX5_isAhead_X5_score : GoodIn wsX5_isAhead (wsV RX5 210 RX5 yX5_score wsX5_score) := goodIn_app (goodIn_of _ (by decide +kernel)) ggX5_isAhead_X5_score
theorem dX5_isAhead_0 : decode cX5_isAhead 0 = .ok (.aload_n 0, 1) := by decide +kernel
theorem dX5_isAhead_1 : decode cX5_isAhead 1 = .ok (.iload_n 1, 1) := by decide +kernel
theorem dX5_isAhead_2 : decode cX5_isAhead 2 = .ok (.iconst 1, 1) := by decide +kernel
theorem dX5_isAhead_3 : decode cX5_isAhead 3 = .ok (.invokevirtual 219, 3) := by decide +kernel
theorem dX5_isAhead_6 : decode cX5_isAhead 6 = .ok (.aload_n 0, 1) := by decide +kernel
theorem dX5_isAhead_7 : decode cX5_isAhead 7 = .ok (.iload_n 2, 1) := by decide +kernel
theorem dX5_isAhead_8 : decode cX5_isAhead 8 = .ok (.iconst 1, 1) := by decide +kernel
theorem dX5_isAhead_9 : decode cX5_isAhead 9 = .ok (.invokevirtual 219, 3) := by decide +kernel
theorem dX5_isAhead_12 : decode cX5_isAhead 12 = .ok (.isub, 1) := by decide +kernel
theorem dX5_isAhead_13 : decode cX5_isAhead 13 = .ok (.istore_n 3, 1) := by decide +kernel
theorem dX5_isAhead_14 : decode cX5_isAhead 14 = .ok (.iload_n 3, 1) := by decide +kernel
theorem dX5_isAhead_15 : decode cX5_isAhead 15 = .ok (.ifCond .ne 17, 3) := by decide +kernel
theorem dX5_isAhead_18 : decode cX5_isAhead 18 = .ok (.aload_n 0, 1) := by decide +kernel
theorem dX5_isAhead_19 : decode cX5_isAhead 19 = .ok (.iload_n 1, 1) := by decide +kernel
theorem dX5_isAhead_20 : decode cX5_isAhead 20 = .ok (.iconst 0, 1) := by decide +kernel
theorem dX5_isAhead_21 : decode cX5_isAhead 21 = .ok (.invokevirtual 219, 3) := by decide +kernel
theorem dX5_isAhead_24 : decode cX5_isAhead 24 = .ok (.aload_n 0, 1) := by decide +kernel
theorem dX5_isAhead_25 : decode cX5_isAhead 25 = .ok (.iload_n 2, 1) := by decide +kernel
theorem dX5_isAhead_26 : decode cX5_isAhead 26 = .ok (.iconst 0, 1) := by decide +kernel
theorem dX5_isAhead_27 : decode cX5_isAhead 27 = .ok (.invokevirtual 219, 3) := by decide +kernel
theorem dX5_isAhead_30 : decode cX5_isAhead 30 = .ok (.isub, 1) := by decide +kernel
theorem dX5_isAhead_31 : decode cX5_isAhead 31 = .ok (.istore_n 3, 1) := by decide +kernel
theorem dX5_isAhead_32 : decode cX5_isAhead 32 = .ok (.iload_n 3, 1) := by decide +kernel
theorem dX5_isAhead_33 : decode cX5_isAhead 33 = .ok (.ifCond .ne 15, 3) := by decide +kernel
theorem dX5_isAhead_36 : decode cX5_isAhead 36 = .ok (.aload_n 0, 1) := by decide +kernel
theorem dX5_isAhead_37 : decode cX5_isAhead 37 = .ok (.iload_n 1, 1) := by decide +kernel
theorem dX5_isAhead_38 : decode cX5_isAhead 38 = .ok (.invokevirtual 210, 3) := by decide +kernel
theorem dX5_isAhead_41 : decode cX5_isAhead 41 = .ok (.aload_n 0, 1) := by decide +kernel
theorem dX5_isAhead_42 : decode cX5_isAhead 42 = .ok (.iload_n 2, 1) := by decide +kernel
theorem dX5_isAhead_43 : decode cX5_isAhead 43 = .ok (.invokevirtual 210, 3) := by decide +kernel
theorem dX5_isAhead_46 : decode cX5_isAhead 46 = .ok (.isub, 1) := by decide +kernel
theorem dX5_isAhead_47 : decode cX5_isAhead 47 = .ok (.istore_n 3, 1) := by decide +kernel
theorem dX5_isAhead_48 : decode cX5_isAhead 48 = .ok (.iload_n 3, 1) := by decide +kernel
theorem dX5_isAhead_49 : decode cX5_isAhead 49 = .ok (.ifCond .ne 16, 3) := by decide +kernel
theorem dX5_isAhead_52 : decode cX5_isAhead 52 = .ok (.iload_n 1, 1) := by decide +kernel
theorem dX5_isAhead_53 : decode cX5_isAhead 53 = .ok (.iload_n 2, 1) := by decide +kernel
theorem dX5_isAhead_54 : decode cX5_isAhead 54 = .ok (.if_icmp .ge 7, 3) := by decide +kernel
theorem dX5_isAhead_57 : decode cX5_isAhead 57 = .ok (.iconst 1, 1) := by decide +kernel
theorem dX5_isAhead_58 : decode cX5_isAhead 58 = .ok (.goto 16, 3) := by decide +kernel
theorem dX5_isAhead_61 : decode cX5_isAhead 61 = .ok (.iconst 0, 1) := by decide +kernel
theorem dX5_isAhead_62 : decode cX5_isAhead 62 = .ok (.goto 12, 3) := by decide +kernel
theorem dX5_isAhead_65 : decode cX5_isAhead 65 = .ok (.iload_n 3, 1) := by decide +kernel
theorem dX5_isAhead_66 : decode cX5_isAhead 66 = .ok (.ifCond .le 7, 3) := by decide +kernel
theorem dX5_isAhead_69 : decode cX5_isAhead 69 = .ok (.iconst 1, 1) := by decide +kernel
theorem dX5_isAhead_70 : decode cX5_isAhead 70 = .ok (.goto 4, 3) := by decide +kernel
theorem dX5_isAhead_73 : decode cX5_isAhead 73 = .ok (.iconst 0, 1) := by decide +kernel
theorem dX5_isAhead_74 : decode cX5_isAhead 74 = .ok (.ireturn, 1) := by decide +kernel
set_option maxRecDepth 20000 in
theorem ggX5_shortList_X5_is : GoodIn wsX5_shortList wsX5_is := goodIn_r _ [9] (by decide +kernel) (by decide +kernel)
set_option maxRecDepth 20000 in
theorem gX5_shortList_X5_is : GoodIn wsX5_shortList (va_wsS RX5 57 yX5_is wsX5_is) := goodIn_app (goodIn_of _ (by decide +kernel)) ggX5_shortList_X5_is
set_option maxRecDepth 20000 in
theorem ggX5_shortList_X5_refuse : GoodIn wsX5_shortList wsX5_refuse := goodIn_r _ [13, 1, 83, 84, 85, 86, 87, 88, 89, 90, 91, 92, 93, 94, 95, 96, 97, 98, 99, 100, 101, 102] (by decide +kernel) (by decide +kernel)
set_option maxRecDepth 20000 in
theorem gX5_shortList_X5_refuse : GoodIn wsX5_shortList (wsV RX5 86 RX5 yX5_refuse wsX5_refuse) := goodIn_app (goodIn_of _ (by decide +kernel)) ggX5_shortList_X5_refuse
set_option maxRecDepth 20000 in
theorem ggX5_shortList_J6_bitCount_0f7a4 : GoodIn wsX5_shortList wsJ6_bitCount_0f7a4 := goodIn_r _ [17, 18, 19, 20] (by decide +kernel) (by decide +kernel)
set_option maxRecDepth 20000 in
theorem gX5_shortList_J6_bitCount_0f7a4 : GoodIn wsX5_shortList (va_wsS RX5 111 yJ6_bitCount_0f7a4 wsJ6_bitCount_0f7a4) := goodIn_app (goodIn_of _ (by decide +kernel)) ggX5_shortList_J6_bitCount_0f7a4
set_option maxRecDepth 20000 in
theorem ggX5_shortList_Jx4a65c_size_8abf5 : GoodIn wsX5_shortList wsJx4a65c_size_8abf5 := goodIn_r _ [25, 26, 103, 104, 105] (by decide +kernel) (by decide +kernel)
set_option maxRecDepth 20000 in
theorem gX5_shortList_Jx4a65c_size_8abf5 : GoodIn wsX5_shortList (wsV RX5 53 RJx4a65c yJx4a65c_size_8abf5 wsJx4a65c_size_8abf5) := goodIn_app (goodIn_of _ (by decide +kernel)) ggX5_shortList_Jx4a65c_size_8abf5
set_option maxRecDepth 20000 in
theorem ggX5_shortList_X5_isAhead : GoodIn wsX5_shortList wsX5_isAhead := goodIn_r _ [30, 31, 32, 33, 8, 34, 35, 36, 21, 22, 23, 24, 25, 26, 37, 38, 39, 40, 41, 5, 42, 43, 44, 45, 46, 47, 48, 49, 50, 51, 52, 53, 54, 55, 56, 57, 58, 59, 60, 16, 61, 62, 63, 64, 65, 66, 67, 68, 69, 70, 71, 72, 73, 74, 75, 76, 77, 78, 79, 80, 81, 82, 83, 84, 85, 86, 87, 88, 89, 90, 91, 92, 93, 94, 95, 96, 97, 98, 99, 100, 101, 102, 103, 104, 105] (by decide +kernel) (by decide +kernel)
set_option maxRecDepth 20000 in
theorem gX5_shortList_X5_isAhead : GoodIn wsX5_shortList (wsV RX5 223 RX5 yX5_isAhead wsX5_isAhead) := goodIn_app (goodIn_of _ (by decide +kernel)) ggX5_shortList_X5_isAhead
theorem dX5_shortList_0 : decode cX5_shortList 0 = .ok (.aload_n 0, 1) := by decide +kernel
theorem dX5_shortList_1 : decode cX5_shortList 1 = .ok (.iconst 0, 1) := by decide +kernel
theorem dX5_shortList_2 : decode cX5_shortList 2 = .ok (.putfield 50, 3) := by decide +kernel
theorem dX5_shortList_5 : decode cX5_shortList 5 = .ok (.iload_n 1, 1) := by decide +kernel
theorem dX5_shortList_6 : decode cX5_shortList 6 = .ok (.iconst 2, 1) := by decide +kernel
theorem dX5_shortList_7 : decode cX5_shortList 7 = .ok (.iconst 5, 1) := by decide +kernel
theorem dX5_shortList_8 : decode cX5_shortList 8 = .ok (.invokestatic 57, 3) := by decide +kernel
theorem dX5_shortList_11 : decode cX5_shortList 11 = .ok (.ifCond .ne 9, 3) := by decide +kernel
theorem dX5_shortList_14 : decode cX5_shortList 14 = .ok (.aload_n 0, 1) := by decide +kernel
theorem dX5_shortList_15 : decode cX5_shortList 15 = .ok (.iconst 1, 1) := by decide +kernel
theorem dX5_shortList_16 : decode cX5_shortList 16 = .ok (.invokevirtual 86, 3) := by decide +kernel
theorem dX5_shortList_19 : decode cX5_shortList 19 = .ok (.ireturn, 1) := by decide +kernel
theorem dX5_shortList_20 : decode cX5_shortList 20 = .ok (.aload_n 0, 1) := by decide +kernel
theorem dX5_shortList_21 : decode cX5_shortList 21 = .ok (.getfield 101, 3) := by decide +kernel
theorem dX5_shortList_24 : decode cX5_shortList 24 = .ok (.iconst 2, 1) := by decide +kernel
theorem dX5_shortList_25 : decode cX5_shortList 25 = .ok (.if_icmp .eq 9, 3) := by decide +kernel
theorem dX5_shortList_28 : decode cX5_shortList 28 = .ok (.aload_n 0, 1) := by decide +kernel
theorem dX5_shortList_29 : decode cX5_shortList 29 = .ok (.iconst 2, 1) := by decide +kernel
theorem dX5_shortList_30 : decode cX5_shortList 30 = .ok (.invokevirtual 86, 3) := by decide +kernel
theorem dX5_shortList_33 : decode cX5_shortList 33 = .ok (.ireturn, 1) := by decide +kernel
theorem dX5_shortList_34 : decode cX5_shortList 34 = .ok (.aload_n 0, 1) := by decide +kernel
theorem dX5_shortList_35 : decode cX5_shortList 35 = .ok (.getfield 80, 3) := by decide +kernel
theorem dX5_shortList_38 : decode cX5_shortList 38 = .ok (.invokestatic 111, 3) := by decide +kernel
theorem dX5_shortList_41 : decode cX5_shortList 41 = .ok (.iload_n 1, 1) := by decide +kernel
theorem dX5_shortList_42 : decode cX5_shortList 42 = .ok (.if_icmp .ge 85, 3) := by decide +kernel
theorem dX5_shortList_45 : decode cX5_shortList 45 = .ok (.aload_n 0, 1) := by decide +kernel
theorem dX5_shortList_46 : decode cX5_shortList 46 = .ok (.getfield 80, 3) := by decide +kernel
theorem dX5_shortList_49 : decode cX5_shortList 49 = .ok (.aload_n 0, 1) := by decide +kernel
theorem dX5_shortList_50 : decode cX5_shortList 50 = .ok (.getfield 77, 3) := by decide +kernel
theorem dX5_shortList_53 : decode cX5_shortList 53 = .ok (.if_icmp .eq 74, 3) := by decide +kernel
theorem dX5_shortList_56 : decode cX5_shortList 56 = .ok (.iconst (-1), 1) := by decide +kernel
theorem dX5_shortList_57 : decode cX5_shortList 57 = .ok (.istore_n 2, 1) := by decide +kernel
theorem dX5_shortList_58 : decode cX5_shortList 58 = .ok (.iconst 0, 1) := by decide +kernel
theorem dX5_shortList_59 : decode cX5_shortList 59 = .ok (.istore_n 3, 1) := by decide +kernel
theorem dX5_shortList_60 : decode cX5_shortList 60 = .ok (.iload_n 3, 1) := by decide +kernel
theorem dX5_shortList_61 : decode cX5_shortList 61 = .ok (.aload_n 0, 1) := by decide +kernel
theorem dX5_shortList_62 : decode cX5_shortList 62 = .ok (.getfield 16, 3) := by decide +kernel
theorem dX5_shortList_65 : decode cX5_shortList 65 = .ok (.invokevirtual 53, 3) := by decide +kernel
theorem dX5_shortList_68 : decode cX5_shortList 68 = .ok (.if_icmp .ge 44, 3) := by decide +kernel
theorem dX5_shortList_71 : decode cX5_shortList 71 = .ok (.aload_n 0, 1) := by decide +kernel
theorem dX5_shortList_72 : decode cX5_shortList 72 = .ok (.getfield 77, 3) := by decide +kernel
theorem dX5_shortList_75 : decode cX5_shortList 75 = .ok (.aload_n 0, 1) := by decide +kernel
theorem dX5_shortList_76 : decode cX5_shortList 76 = .ok (.getfield 80, 3) := by decide +kernel
theorem dX5_shortList_79 : decode cX5_shortList 79 = .ok (.iconst (-1), 1) := by decide +kernel
theorem dX5_shortList_80 : decode cX5_shortList 80 = .ok (.ixor, 1) := by decide +kernel
theorem dX5_shortList_81 : decode cX5_shortList 81 = .ok (.iand, 1) := by decide +kernel
theorem dX5_shortList_82 : decode cX5_shortList 82 = .ok (.iload_n 3, 1) := by decide +kernel
theorem dX5_shortList_83 : decode cX5_shortList 83 = .ok (.ishr, 1) := by decide +kernel
theorem dX5_shortList_84 : decode cX5_shortList 84 = .ok (.iconst 1, 1) := by decide +kernel
theorem dX5_shortList_85 : decode cX5_shortList 85 = .ok (.iand, 1) := by decide +kernel
theorem dX5_shortList_86 : decode cX5_shortList 86 = .ok (.iconst 1, 1) := by decide +kernel
theorem dX5_shortList_87 : decode cX5_shortList 87 = .ok (.if_icmp .ne 19, 3) := by decide +kernel
theorem dX5_shortList_90 : decode cX5_shortList 90 = .ok (.iload_n 2, 1) := by decide +kernel
theorem dX5_shortList_91 : decode cX5_shortList 91 = .ok (.iconst (-1), 1) := by decide +kernel
theorem dX5_shortList_92 : decode cX5_shortList 92 = .ok (.if_icmp .eq 12, 3) := by decide +kernel
theorem dX5_shortList_95 : decode cX5_shortList 95 = .ok (.aload_n 0, 1) := by decide +kernel
theorem dX5_shortList_96 : decode cX5_shortList 96 = .ok (.iload_n 3, 1) := by decide +kernel
theorem dX5_shortList_97 : decode cX5_shortList 97 = .ok (.iload_n 2, 1) := by decide +kernel
theorem dX5_shortList_98 : decode cX5_shortList 98 = .ok (.invokevirtual 223, 3) := by decide +kernel
theorem dX5_shortList_101 : decode cX5_shortList 101 = .ok (.ifCond .eq 5, 3) := by decide +kernel
theorem dX5_shortList_104 : decode cX5_shortList 104 = .ok (.iload_n 3, 1) := by decide +kernel
theorem dX5_shortList_105 : decode cX5_shortList 105 = .ok (.istore_n 2, 1) := by decide +kernel
theorem dX5_shortList_106 : decode cX5_shortList 106 = .ok (.iinc 3 1, 3) := by decide +kernel
theorem dX5_shortList_109 : decode cX5_shortList 109 = .ok (.goto (-49), 3) := by decide +kernel
theorem dX5_shortList_112 : decode cX5_shortList 112 = .ok (.aload_n 0, 1) := by decide +kernel
theorem dX5_shortList_113 : decode cX5_shortList 113 = .ok (.dup, 1) := by decide +kernel
theorem dX5_shortList_114 : decode cX5_shortList 114 = .ok (.getfield 80, 3) := by decide +kernel
theorem dX5_shortList_117 : decode cX5_shortList 117 = .ok (.iconst 1, 1) := by decide +kernel
theorem dX5_shortList_118 : decode cX5_shortList 118 = .ok (.iload_n 2, 1) := by decide +kernel
theorem dX5_shortList_119 : decode cX5_shortList 119 = .ok (.ishl, 1) := by decide +kernel
theorem dX5_shortList_120 : decode cX5_shortList 120 = .ok (.ior, 1) := by decide +kernel
theorem dX5_shortList_121 : decode cX5_shortList 121 = .ok (.putfield 80, 3) := by decide +kernel
theorem dX5_shortList_124 : decode cX5_shortList 124 = .ok (.goto (-90), 3) := by decide +kernel
theorem dX5_shortList_127 : decode cX5_shortList 127 = .ok (.aload_n 0, 1) := by decide +kernel
theorem dX5_shortList_128 : decode cX5_shortList 128 = .ok (.iconst 3, 1) := by decide +kernel
theorem dX5_shortList_129 : decode cX5_shortList 129 = .ok (.putfield 101, 3) := by decide +kernel
theorem dX5_shortList_132 : decode cX5_shortList 132 = .ok (.aload_n 0, 1) := by decide +kernel
theorem dX5_shortList_133 : decode cX5_shortList 133 = .ok (.getfield 80, 3) := by decide +kernel
theorem dX5_shortList_136 : decode cX5_shortList 136 = .ok (.invokestatic 111, 3) := by decide +kernel
theorem dX5_shortList_139 : decode cX5_shortList 139 = .ok (.ireturn, 1) := by decide +kernel
set_option maxRecDepth 20000 in
theorem ggX5_atPlace_Jx4a65c_size_8abf5 : GoodIn wsX5_atPlace wsJx4a65c_size_8abf5 := goodIn_r _ [7, 8, 29, 30, 31] (by decide +kernel) (by decide +kernel)
set_option maxRecDepth 20000 in
theorem gX5_atPlace_Jx4a65c_size_8abf5 : GoodIn wsX5_atPlace (wsV RX5 53 RJx4a65c yJx4a65c_size_8abf5 wsJx4a65c_size_8abf5) := goodIn_app (goodIn_of _ (by decide +kernel)) ggX5_atPlace_Jx4a65c_size_8abf5
theorem dX5_atPlace_0 : decode cX5_atPlace 0 = .ok (.iload_n 1, 1) := by decide +kernel
theorem dX5_atPlace_1 : decode cX5_atPlace 1 = .ok (.istore_n 2, 1) := by decide +kernel
theorem dX5_atPlace_2 : decode cX5_atPlace 2 = .ok (.iconst 0, 1) := by decide +kernel
theorem dX5_atPlace_3 : decode cX5_atPlace 3 = .ok (.istore_n 3, 1) := by decide +kernel
theorem dX5_atPlace_4 : decode cX5_atPlace 4 = .ok (.iload_n 3, 1) := by decide +kernel
theorem dX5_atPlace_5 : decode cX5_atPlace 5 = .ok (.aload_n 0, 1) := by decide +kernel
theorem dX5_atPlace_6 : decode cX5_atPlace 6 = .ok (.getfield 16, 3) := by decide +kernel
theorem dX5_atPlace_9 : decode cX5_atPlace 9 = .ok (.invokevirtual 53, 3) := by decide +kernel
theorem dX5_atPlace_12 : decode cX5_atPlace 12 = .ok (.if_icmp .ge 32, 3) := by decide +kernel
theorem dX5_atPlace_15 : decode cX5_atPlace 15 = .ok (.aload_n 0, 1) := by decide +kernel
theorem dX5_atPlace_16 : decode cX5_atPlace 16 = .ok (.getfield 80, 3) := by decide +kernel
theorem dX5_atPlace_19 : decode cX5_atPlace 19 = .ok (.iload_n 3, 1) := by decide +kernel
theorem dX5_atPlace_20 : decode cX5_atPlace 20 = .ok (.ishr, 1) := by decide +kernel
theorem dX5_atPlace_21 : decode cX5_atPlace 21 = .ok (.iconst 1, 1) := by decide +kernel
theorem dX5_atPlace_22 : decode cX5_atPlace 22 = .ok (.iand, 1) := by decide +kernel
theorem dX5_atPlace_23 : decode cX5_atPlace 23 = .ok (.ifCond .ne 6, 3) := by decide +kernel
theorem dX5_atPlace_26 : decode cX5_atPlace 26 = .ok (.goto 12, 3) := by decide +kernel
theorem dX5_atPlace_29 : decode cX5_atPlace 29 = .ok (.iinc 2 (-1), 3) := by decide +kernel
theorem dX5_atPlace_32 : decode cX5_atPlace 32 = .ok (.iload_n 2, 1) := by decide +kernel
theorem dX5_atPlace_33 : decode cX5_atPlace 33 = .ok (.ifCond .ne 5, 3) := by decide +kernel
theorem dX5_atPlace_36 : decode cX5_atPlace 36 = .ok (.iload_n 3, 1) := by decide +kernel
theorem dX5_atPlace_37 : decode cX5_atPlace 37 = .ok (.ireturn, 1) := by decide +kernel
theorem dX5_atPlace_38 : decode cX5_atPlace 38 = .ok (.iinc 3 1, 3) := by decide +kernel
theorem dX5_atPlace_41 : decode cX5_atPlace 41 = .ok (.goto (-37), 3) := by decide +kernel
theorem dX5_atPlace_44 : decode cX5_atPlace 44 = .ok (.iconst (-1), 1) := by decide +kernel
theorem dX5_atPlace_45 : decode cX5_atPlace 45 = .ok (.ireturn, 1) := by decide +kernel
set_option maxRecDepth 20000 in
theorem ggX5_ranked_J6_bitCount_0f7a4 : GoodIn wsX5_ranked wsJ6_bitCount_0f7a4 := goodIn_r _ [6, 7, 8, 9] (by decide +kernel) (by decide +kernel)
set_option maxRecDepth 20000 in
theorem gX5_ranked_J6_bitCount_0f7a4 : GoodIn wsX5_ranked (va_wsS RX5 111 yJ6_bitCount_0f7a4 wsJ6_bitCount_0f7a4) := goodIn_app (goodIn_of _ (by decide +kernel)) ggX5_ranked_J6_bitCount_0f7a4
set_option maxRecDepth 20000 in
theorem ggX5_ranked_X5_atPlace : GoodIn wsX5_ranked wsX5_atPlace := goodIn_r _ [14, 15, 1, 16, 17, 18, 19, 20, 21, 22, 23, 24, 25, 26, 27, 28, 29, 30, 31, 32, 33, 34, 35, 36, 37, 38, 39, 40, 41, 42, 43, 44] (by decide +kernel) (by decide +kernel)
set_option maxRecDepth 20000 in
theorem gX5_ranked_X5_atPlace : GoodIn wsX5_ranked (wsV RX5 226 RX5 yX5_atPlace wsX5_atPlace) := goodIn_app (goodIn_of _ (by decide +kernel)) ggX5_ranked_X5_atPlace
theorem dX5_ranked_0 : decode cX5_ranked 0 = .ok (.aload_n 0, 1) := by decide +kernel
theorem dX5_ranked_1 : decode cX5_ranked 1 = .ok (.getfield 80, 3) := by decide +kernel
theorem dX5_ranked_4 : decode cX5_ranked 4 = .ok (.invokestatic 111, 3) := by decide +kernel
theorem dX5_ranked_7 : decode cX5_ranked 7 = .ok (.newarray .int, 2) := by decide +kernel
theorem dX5_ranked_9 : decode cX5_ranked 9 = .ok (.astore_n 2, 1) := by decide +kernel
theorem dX5_ranked_10 : decode cX5_ranked 10 = .ok (.iload_n 1, 1) := by decide +kernel
theorem dX5_ranked_11 : decode cX5_ranked 11 = .ok (.istore_n 3, 1) := by decide +kernel
theorem dX5_ranked_12 : decode cX5_ranked 12 = .ok (.aload_n 2, 1) := by decide +kernel
theorem dX5_ranked_13 : decode cX5_ranked 13 = .ok (.arraylength, 1) := by decide +kernel
theorem dX5_ranked_14 : decode cX5_ranked 14 = .ok (.iconst 1, 1) := by decide +kernel
theorem dX5_ranked_15 : decode cX5_ranked 15 = .ok (.isub, 1) := by decide +kernel
theorem dX5_ranked_16 : decode cX5_ranked 16 = .ok (.istore 4, 2) := by decide +kernel
theorem dX5_ranked_18 : decode cX5_ranked 18 = .ok (.iload 4, 2) := by decide +kernel
theorem dX5_ranked_20 : decode cX5_ranked 20 = .ok (.ifCond .lt 26, 3) := by decide +kernel
theorem dX5_ranked_23 : decode cX5_ranked 23 = .ok (.aload_n 2, 1) := by decide +kernel
theorem dX5_ranked_24 : decode cX5_ranked 24 = .ok (.iload 4, 2) := by decide +kernel
theorem dX5_ranked_26 : decode cX5_ranked 26 = .ok (.aload_n 0, 1) := by decide +kernel
theorem dX5_ranked_27 : decode cX5_ranked 27 = .ok (.iload_n 3, 1) := by decide +kernel
theorem dX5_ranked_28 : decode cX5_ranked 28 = .ok (.bipush 10, 2) := by decide +kernel
theorem dX5_ranked_30 : decode cX5_ranked 30 = .ok (.irem, 1) := by decide +kernel
theorem dX5_ranked_31 : decode cX5_ranked 31 = .ok (.invokevirtual 226, 3) := by decide +kernel
theorem dX5_ranked_34 : decode cX5_ranked 34 = .ok (.iastore, 1) := by decide +kernel
theorem dX5_ranked_35 : decode cX5_ranked 35 = .ok (.iload_n 3, 1) := by decide +kernel
theorem dX5_ranked_36 : decode cX5_ranked 36 = .ok (.bipush 10, 2) := by decide +kernel
theorem dX5_ranked_38 : decode cX5_ranked 38 = .ok (.idiv, 1) := by decide +kernel
theorem dX5_ranked_39 : decode cX5_ranked 39 = .ok (.istore_n 3, 1) := by decide +kernel
theorem dX5_ranked_40 : decode cX5_ranked 40 = .ok (.iinc 4 (-1), 3) := by decide +kernel
theorem dX5_ranked_43 : decode cX5_ranked 43 = .ok (.goto (-25), 3) := by decide +kernel
theorem dX5_ranked_46 : decode cX5_ranked 46 = .ok (.aload_n 2, 1) := by decide +kernel
theorem dX5_ranked_47 : decode cX5_ranked 47 = .ok (.areturn, 1) := by decide +kernel
set_option maxRecDepth 20000 in
theorem ggX5_isOrder_J6_bitCount_0f7a4 : GoodIn wsX5_isOrder wsJ6_bitCount_0f7a4 := goodIn_r _ [5, 6, 7, 8] (by decide +kernel) (by decide +kernel)
set_option maxRecDepth 20000 in
theorem gX5_isOrder_J6_bitCount_0f7a4 : GoodIn wsX5_isOrder (va_wsS RX5 111 yJ6_bitCount_0f7a4 wsJ6_bitCount_0f7a4) := goodIn_app (goodIn_of _ (by decide +kernel)) ggX5_isOrder_J6_bitCount_0f7a4
set_option maxRecDepth 20000 in
theorem ggX5_isOrder_X5_is : GoodIn wsX5_isOrder wsX5_is := goodIn_r _ [12] (by decide +kernel) (by decide +kernel)
set_option maxRecDepth 20000 in
theorem gX5_isOrder_X5_is : GoodIn wsX5_isOrder (va_wsS RX5 57 yX5_is wsX5_is) := goodIn_app (goodIn_of _ (by decide +kernel)) ggX5_isOrder_X5_is
theorem dX5_isOrder_0 : decode cX5_isOrder 0 = .ok (.aload_n 0, 1) := by decide +kernel
theorem dX5_isOrder_1 : decode cX5_isOrder 1 = .ok (.getfield 80, 3) := by decide +kernel
theorem dX5_isOrder_4 : decode cX5_isOrder 4 = .ok (.invokestatic 111, 3) := by decide +kernel
theorem dX5_isOrder_7 : decode cX5_isOrder 7 = .ok (.istore_n 2, 1) := by decide +kernel
theorem dX5_isOrder_8 : decode cX5_isOrder 8 = .ok (.iconst 0, 1) := by decide +kernel
theorem dX5_isOrder_9 : decode cX5_isOrder 9 = .ok (.istore_n 3, 1) := by decide +kernel
theorem dX5_isOrder_10 : decode cX5_isOrder 10 = .ok (.iconst 0, 1) := by decide +kernel
theorem dX5_isOrder_11 : decode cX5_isOrder 11 = .ok (.istore 4, 2) := by decide +kernel
theorem dX5_isOrder_13 : decode cX5_isOrder 13 = .ok (.iload_n 1, 1) := by decide +kernel
theorem dX5_isOrder_14 : decode cX5_isOrder 14 = .ok (.istore 5, 2) := by decide +kernel
theorem dX5_isOrder_16 : decode cX5_isOrder 16 = .ok (.iload 5, 2) := by decide +kernel
theorem dX5_isOrder_18 : decode cX5_isOrder 18 = .ok (.ifCond .le 52, 3) := by decide +kernel
theorem dX5_isOrder_21 : decode cX5_isOrder 21 = .ok (.iload 5, 2) := by decide +kernel
theorem dX5_isOrder_23 : decode cX5_isOrder 23 = .ok (.bipush 10, 2) := by decide +kernel
theorem dX5_isOrder_25 : decode cX5_isOrder 25 = .ok (.irem, 1) := by decide +kernel
theorem dX5_isOrder_26 : decode cX5_isOrder 26 = .ok (.istore 6, 2) := by decide +kernel
theorem dX5_isOrder_28 : decode cX5_isOrder 28 = .ok (.iload 6, 2) := by decide +kernel
theorem dX5_isOrder_30 : decode cX5_isOrder 30 = .ok (.iconst 1, 1) := by decide +kernel
theorem dX5_isOrder_31 : decode cX5_isOrder 31 = .ok (.iload_n 2, 1) := by decide +kernel
theorem dX5_isOrder_32 : decode cX5_isOrder 32 = .ok (.invokestatic 57, 3) := by decide +kernel
theorem dX5_isOrder_35 : decode cX5_isOrder 35 = .ok (.ifCond .eq 13, 3) := by decide +kernel
theorem dX5_isOrder_38 : decode cX5_isOrder 38 = .ok (.iload_n 3, 1) := by decide +kernel
theorem dX5_isOrder_39 : decode cX5_isOrder 39 = .ok (.iload 6, 2) := by decide +kernel
theorem dX5_isOrder_41 : decode cX5_isOrder 41 = .ok (.ishr, 1) := by decide +kernel
theorem dX5_isOrder_42 : decode cX5_isOrder 42 = .ok (.iconst 1, 1) := by decide +kernel
theorem dX5_isOrder_43 : decode cX5_isOrder 43 = .ok (.iand, 1) := by decide +kernel
theorem dX5_isOrder_44 : decode cX5_isOrder 44 = .ok (.iconst 1, 1) := by decide +kernel
theorem dX5_isOrder_45 : decode cX5_isOrder 45 = .ok (.if_icmp .ne 5, 3) := by decide +kernel
theorem dX5_isOrder_48 : decode cX5_isOrder 48 = .ok (.iconst 0, 1) := by decide +kernel
theorem dX5_isOrder_49 : decode cX5_isOrder 49 = .ok (.ireturn, 1) := by decide +kernel
theorem dX5_isOrder_50 : decode cX5_isOrder 50 = .ok (.iload_n 3, 1) := by decide +kernel
theorem dX5_isOrder_51 : decode cX5_isOrder 51 = .ok (.iconst 1, 1) := by decide +kernel
theorem dX5_isOrder_52 : decode cX5_isOrder 52 = .ok (.iload 6, 2) := by decide +kernel
theorem dX5_isOrder_54 : decode cX5_isOrder 54 = .ok (.ishl, 1) := by decide +kernel
theorem dX5_isOrder_55 : decode cX5_isOrder 55 = .ok (.ior, 1) := by decide +kernel
theorem dX5_isOrder_56 : decode cX5_isOrder 56 = .ok (.istore_n 3, 1) := by decide +kernel
theorem dX5_isOrder_57 : decode cX5_isOrder 57 = .ok (.iinc 4 1, 3) := by decide +kernel
theorem dX5_isOrder_60 : decode cX5_isOrder 60 = .ok (.iload 5, 2) := by decide +kernel
theorem dX5_isOrder_62 : decode cX5_isOrder 62 = .ok (.bipush 10, 2) := by decide +kernel
theorem dX5_isOrder_64 : decode cX5_isOrder 64 = .ok (.idiv, 1) := by decide +kernel
theorem dX5_isOrder_65 : decode cX5_isOrder 65 = .ok (.istore 5, 2) := by decide +kernel
theorem dX5_isOrder_67 : decode cX5_isOrder 67 = .ok (.goto (-51), 3) := by decide +kernel
theorem dX5_isOrder_70 : decode cX5_isOrder 70 = .ok (.iload_n 2, 1) := by decide +kernel
theorem dX5_isOrder_71 : decode cX5_isOrder 71 = .ok (.ifCond .le 13, 3) := by decide +kernel
theorem dX5_isOrder_74 : decode cX5_isOrder 74 = .ok (.iload 4, 2) := by decide +kernel
theorem dX5_isOrder_76 : decode cX5_isOrder 76 = .ok (.iload_n 2, 1) := by decide +kernel
theorem dX5_isOrder_77 : decode cX5_isOrder 77 = .ok (.if_icmp .ne 7, 3) := by decide +kernel
theorem dX5_isOrder_80 : decode cX5_isOrder 80 = .ok (.iconst 1, 1) := by decide +kernel
theorem dX5_isOrder_81 : decode cX5_isOrder 81 = .ok (.goto 4, 3) := by decide +kernel
theorem dX5_isOrder_84 : decode cX5_isOrder 84 = .ok (.iconst 0, 1) := by decide +kernel
theorem dX5_isOrder_85 : decode cX5_isOrder 85 = .ok (.ireturn, 1) := by decide +kernel
set_option maxRecDepth 20000 in
theorem ggX5_vote_X5_isJudge : GoodIn wsX5_vote wsX5_isJudge := goodIn_r _ [9, 3, 10, 11, 12, 13, 14, 15, 16, 17, 8, 18, 84, 85, 86, 87, 88, 89, 90, 91, 92, 93, 94, 95, 96, 97, 98, 99, 100, 101, 102, 103, 104, 105, 106] (by decide +kernel) (by decide +kernel)
set_option maxRecDepth 20000 in
theorem gX5_vote_X5_isJudge : GoodIn wsX5_vote (wsV RX5 104 RX5 yX5_isJudge wsX5_isJudge) := goodIn_app (goodIn_of _ (by decide +kernel)) ggX5_vote_X5_isJudge
set_option maxRecDepth 20000 in
theorem ggX5_vote_X5_refuse : GoodIn wsX5_vote wsX5_refuse := goodIn_r _ [22, 1, 84, 85, 86, 87, 88, 89, 90, 91, 92, 93, 94, 95, 96, 97, 98, 99, 100, 101, 102, 103] (by decide +kernel) (by decide +kernel)
set_option maxRecDepth 20000 in
theorem gX5_vote_X5_refuse : GoodIn wsX5_vote (wsV RX5 86 RX5 yX5_refuse wsX5_refuse) := goodIn_app (goodIn_of _ (by decide +kernel)) ggX5_vote_X5_refuse
set_option maxRecDepth 20000 in
theorem ggX5_vote_X5_isOrder : GoodIn wsX5_vote wsX5_isOrder := goodIn_r _ [26, 27, 28, 29, 30, 31, 32, 33, 34, 16, 17, 8, 18, 84, 85, 86, 87, 88, 89, 90, 91, 92, 93, 94, 95, 96, 97, 98, 99, 100, 101, 102, 103] (by decide +kernel) (by decide +kernel)
set_option maxRecDepth 20000 in
theorem gX5_vote_X5_isOrder : GoodIn wsX5_vote (wsV RX5 229 RX5 yX5_isOrder wsX5_isOrder) := goodIn_app (goodIn_of _ (by decide +kernel)) ggX5_vote_X5_isOrder
set_option maxRecDepth 20000 in
theorem ggX5_vote_Jx4a65c_get_915e3 : GoodIn wsX5_vote wsJx4a65c_get_915e3 := goodIn_r _ [38, 15, 39, 40, 41, 42, 43, 44, 45, 46, 47, 48, 49, 13, 50, 51, 104, 105, 106] (by decide +kernel) (by decide +kernel)
set_option maxRecDepth 20000 in
theorem gX5_vote_Jx4a65c_get_915e3 : GoodIn wsX5_vote (wsV RX5 107 RJx4a65c yJx4a65c_get_915e3 wsJx4a65c_get_915e3) := goodIn_app (goodIn_of _ (by decide +kernel)) ggX5_vote_Jx4a65c_get_915e3
set_option maxRecDepth 20000 in
theorem ggX5_vote_Jx4a65c_iterator_32c93 : GoodIn wsX5_vote wsJx4a65c_iterator_32c93 := goodIn_r _ [55, 56, 57, 58, 59, 60, 61, 62, 63, 64, 65, 66, 67, 68, 69, 107, 108, 109, 110, 104, 105, 106] (by decide +kernel) (by decide +kernel)
set_option maxRecDepth 20000 in
theorem gX5_vote_Jx4a65c_iterator_32c93 : GoodIn wsX5_vote (wsV RX5 61 RJx4a65c yJx4a65c_iterator_32c93 wsJx4a65c_iterator_32c93) := goodIn_app (goodIn_of _ (by decide +kernel)) ggX5_vote_Jx4a65c_iterator_32c93
set_option maxRecDepth 20000 in
theorem ggX5_vote_Jx35411_hasNext_aae02 : GoodIn wsX5_vote wsJx35411_hasNext_aae02 := goodIn_r _ [73, 74, 62, 107, 108, 109, 110, 104, 105, 106] (by decide +kernel) (by decide +kernel)
set_option maxRecDepth 20000 in
theorem gX5_vote_Jx35411_hasNext_aae02_f65Jx35411 : GoodIn wsX5_vote (va_wsF RX5 65 RJx35411 ⟨"java/util/Iterator", "hasNext", "()Z"⟩ yJx35411_hasNext_aae02 wsJx35411_hasNext_aae02) := goodIn_app (goodIn_of _ (by decide +kernel)) ggX5_vote_Jx35411_hasNext_aae02
set_option maxRecDepth 20000 in
theorem ggX5_vote_Jx35411_next_0502b : GoodIn wsX5_vote wsJx35411_next_0502b := goodIn_r _ [78, 74, 62, 79, 66, 80, 81, 82, 58, 83, 67, 68, 69, 107, 108, 109, 110, 104, 105, 106] (by decide +kernel) (by decide +kernel)
set_option maxRecDepth 20000 in
theorem gX5_vote_Jx35411_next_0502b_f71Jx35411 : GoodIn wsX5_vote (va_wsF RX5 71 RJx35411 ⟨"java/util/Iterator", "next", "()Ljava/lang/Object;"⟩ yJx35411_next_0502b wsJx35411_next_0502b) := goodIn_app (goodIn_of _ (by decide +kernel)) ggX5_vote_Jx35411_next_0502b
theorem dX5_vote_0 : decode cX5_vote 0 = .ok (.aload_n 0, 1) := by decide +kernel
theorem dX5_vote_1 : decode cX5_vote 1 = .ok (.iconst 0, 1) := by decide +kernel
theorem dX5_vote_2 : decode cX5_vote 2 = .ok (.putfield 50, 3) := by decide +kernel
theorem dX5_vote_5 : decode cX5_vote 5 = .ok (.aload_n 0, 1) := by decide +kernel
theorem dX5_vote_6 : decode cX5_vote 6 = .ok (.iload_n 1, 1) := by decide +kernel
theorem dX5_vote_7 : decode cX5_vote 7 = .ok (.invokevirtual 104, 3) := by decide +kernel
theorem dX5_vote_10 : decode cX5_vote 10 = .ok (.ifCond .ne 9, 3) := by decide +kernel
theorem dX5_vote_13 : decode cX5_vote 13 = .ok (.aload_n 0, 1) := by decide +kernel
theorem dX5_vote_14 : decode cX5_vote 14 = .ok (.iconst 1, 1) := by decide +kernel
theorem dX5_vote_15 : decode cX5_vote 15 = .ok (.invokevirtual 86, 3) := by decide +kernel
theorem dX5_vote_18 : decode cX5_vote 18 = .ok (.ireturn, 1) := by decide +kernel
theorem dX5_vote_19 : decode cX5_vote 19 = .ok (.aload_n 0, 1) := by decide +kernel
theorem dX5_vote_20 : decode cX5_vote 20 = .ok (.iload_n 2, 1) := by decide +kernel
theorem dX5_vote_21 : decode cX5_vote 21 = .ok (.invokevirtual 229, 3) := by decide +kernel
theorem dX5_vote_24 : decode cX5_vote 24 = .ok (.ifCond .ne 9, 3) := by decide +kernel
theorem dX5_vote_27 : decode cX5_vote 27 = .ok (.aload_n 0, 1) := by decide +kernel
theorem dX5_vote_28 : decode cX5_vote 28 = .ok (.iconst 2, 1) := by decide +kernel
theorem dX5_vote_29 : decode cX5_vote 29 = .ok (.invokevirtual 86, 3) := by decide +kernel
theorem dX5_vote_32 : decode cX5_vote 32 = .ok (.ireturn, 1) := by decide +kernel
theorem dX5_vote_33 : decode cX5_vote 33 = .ok (.aload_n 0, 1) := by decide +kernel
theorem dX5_vote_34 : decode cX5_vote 34 = .ok (.getfield 101, 3) := by decide +kernel
theorem dX5_vote_37 : decode cX5_vote 37 = .ok (.iconst 3, 1) := by decide +kernel
theorem dX5_vote_38 : decode cX5_vote 38 = .ok (.if_icmp .eq 9, 3) := by decide +kernel
theorem dX5_vote_41 : decode cX5_vote 41 = .ok (.aload_n 0, 1) := by decide +kernel
theorem dX5_vote_42 : decode cX5_vote 42 = .ok (.iconst 3, 1) := by decide +kernel
theorem dX5_vote_43 : decode cX5_vote 43 = .ok (.invokevirtual 86, 3) := by decide +kernel
theorem dX5_vote_46 : decode cX5_vote 46 = .ok (.ireturn, 1) := by decide +kernel
theorem dX5_vote_47 : decode cX5_vote 47 = .ok (.aload_n 0, 1) := by decide +kernel
theorem dX5_vote_48 : decode cX5_vote 48 = .ok (.getfield 19, 3) := by decide +kernel
theorem dX5_vote_51 : decode cX5_vote 51 = .ok (.iload_n 1, 1) := by decide +kernel
theorem dX5_vote_52 : decode cX5_vote 52 = .ok (.invokevirtual 107, 3) := by decide +kernel
theorem dX5_vote_55 : decode cX5_vote 55 = .ok (.checkcast 76, 3) := by decide +kernel
theorem dX5_vote_58 : decode cX5_vote 58 = .ok (.bipush 6, 2) := by decide +kernel
theorem dX5_vote_60 : decode cX5_vote 60 = .ok (.iload_n 2, 1) := by decide +kernel
theorem dX5_vote_61 : decode cX5_vote 61 = .ok (.iastore, 1) := by decide +kernel
theorem dX5_vote_62 : decode cX5_vote 62 = .ok (.iconst 0, 1) := by decide +kernel
theorem dX5_vote_63 : decode cX5_vote 63 = .ok (.istore_n 3, 1) := by decide +kernel
theorem dX5_vote_64 : decode cX5_vote 64 = .ok (.aload_n 0, 1) := by decide +kernel
theorem dX5_vote_65 : decode cX5_vote 65 = .ok (.getfield 19, 3) := by decide +kernel
theorem dX5_vote_68 : decode cX5_vote 68 = .ok (.invokevirtual 61, 3) := by decide +kernel
theorem dX5_vote_71 : decode cX5_vote 71 = .ok (.astore 4, 2) := by decide +kernel
theorem dX5_vote_73 : decode cX5_vote 73 = .ok (.aload 4, 2) := by decide +kernel
theorem dX5_vote_75 : decode cX5_vote 75 = .ok (.invokeinterface 65 1, 5) := by decide +kernel
theorem dX5_vote_80 : decode cX5_vote 80 = .ok (.ifCond .eq 34, 3) := by decide +kernel
theorem dX5_vote_83 : decode cX5_vote 83 = .ok (.aload 4, 2) := by decide +kernel
theorem dX5_vote_85 : decode cX5_vote 85 = .ok (.invokeinterface 71 1, 5) := by decide +kernel
theorem dX5_vote_90 : decode cX5_vote 90 = .ok (.checkcast 76, 3) := by decide +kernel
theorem dX5_vote_93 : decode cX5_vote 93 = .ok (.astore 5, 2) := by decide +kernel
theorem dX5_vote_95 : decode cX5_vote 95 = .ok (.iload_n 3, 1) := by decide +kernel
theorem dX5_vote_96 : decode cX5_vote 96 = .ok (.aload 5, 2) := by decide +kernel
theorem dX5_vote_98 : decode cX5_vote 98 = .ok (.bipush 6, 2) := by decide +kernel
theorem dX5_vote_100 : decode cX5_vote 100 = .ok (.iaload, 1) := by decide +kernel
theorem dX5_vote_101 : decode cX5_vote 101 = .ok (.ifCond .le 7, 3) := by decide +kernel
theorem dX5_vote_104 : decode cX5_vote 104 = .ok (.iconst 1, 1) := by decide +kernel
theorem dX5_vote_105 : decode cX5_vote 105 = .ok (.goto 4, 3) := by decide +kernel
theorem dX5_vote_108 : decode cX5_vote 108 = .ok (.iconst 0, 1) := by decide +kernel
theorem dX5_vote_109 : decode cX5_vote 109 = .ok (.iadd, 1) := by decide +kernel
theorem dX5_vote_110 : decode cX5_vote 110 = .ok (.istore_n 3, 1) := by decide +kernel
theorem dX5_vote_111 : decode cX5_vote 111 = .ok (.goto (-38), 3) := by decide +kernel
theorem dX5_vote_114 : decode cX5_vote 114 = .ok (.iload_n 3, 1) := by decide +kernel
theorem dX5_vote_115 : decode cX5_vote 115 = .ok (.ireturn, 1) := by decide +kernel
set_option maxRecDepth 20000 in
theorem ggX5_votesFor_Jx4a65c_get_915e3 : GoodIn wsX5_votesFor wsJx4a65c_get_915e3 := goodIn_r _ [7, 8, 9, 10, 11, 12, 13, 14, 15, 16, 17, 18, 19, 6, 20, 21, 69, 70, 71] (by decide +kernel) (by decide +kernel)
set_option maxRecDepth 20000 in
theorem gX5_votesFor_Jx4a65c_get_915e3 : GoodIn wsX5_votesFor (wsV RX5 107 RJx4a65c yJx4a65c_get_915e3 wsJx4a65c_get_915e3) := goodIn_app (goodIn_of _ (by decide +kernel)) ggX5_votesFor_Jx4a65c_get_915e3
set_option maxRecDepth 20000 in
theorem ggX5_votesFor_X5_ranked : GoodIn wsX5_votesFor wsX5_ranked := goodIn_r _ [26, 27, 28, 29, 30, 31, 32, 33, 34, 35, 36, 37, 38, 25, 39, 40, 41, 42, 43, 6, 44, 8, 49, 50, 51, 52, 53, 54, 55, 56, 57, 58, 59, 60, 61, 62, 63, 64, 65, 66, 67, 68, 69, 70, 71] (by decide +kernel) (by decide +kernel)
set_option maxRecDepth 20000 in
theorem gX5_votesFor_X5_ranked : GoodIn wsX5_votesFor (wsV RX5 232 RX5 yX5_ranked wsX5_ranked) := goodIn_app (goodIn_of _ (by decide +kernel)) ggX5_votesFor_X5_ranked
set_option maxRecDepth 20000 in
theorem ggX5_votesFor_X5_isConflict : GoodIn wsX5_votesFor wsX5_isConflict := goodIn_r _ [48, 1, 2, 40, 3, 4, 5, 6, 7, 8, 9, 10, 11, 12, 13, 14, 15, 16, 17, 18, 19, 20, 21, 49, 50, 51, 52, 53, 54, 55, 56, 57, 58, 59, 60, 61, 62, 63, 64, 65, 66, 67, 68, 69, 70, 71] (by decide +kernel) (by decide +kernel)
set_option maxRecDepth 20000 in
theorem gX5_votesFor_X5_isConflict : GoodIn wsX5_votesFor (wsV RX5 153 RX5 yX5_isConflict wsX5_isConflict) := goodIn_app (goodIn_of _ (by decide +kernel)) ggX5_votesFor_X5_isConflict
theorem dX5_votesFor_0 : decode cX5_votesFor 0 = .ok (.aload_n 0, 1) := by decide +kernel
theorem dX5_votesFor_1 : decode cX5_votesFor 1 = .ok (.aload_n 0, 1) := by decide +kernel
theorem dX5_votesFor_2 : decode cX5_votesFor 2 = .ok (.getfield 19, 3) := by decide +kernel
theorem dX5_votesFor_5 : decode cX5_votesFor 5 = .ok (.iload_n 1, 1) := by decide +kernel
theorem dX5_votesFor_6 : decode cX5_votesFor 6 = .ok (.invokevirtual 107, 3) := by decide +kernel
theorem dX5_votesFor_9 : decode cX5_votesFor 9 = .ok (.checkcast 76, 3) := by decide +kernel
theorem dX5_votesFor_12 : decode cX5_votesFor 12 = .ok (.bipush 6, 2) := by decide +kernel
theorem dX5_votesFor_14 : decode cX5_votesFor 14 = .ok (.iaload, 1) := by decide +kernel
theorem dX5_votesFor_15 : decode cX5_votesFor 15 = .ok (.invokevirtual 232, 3) := by decide +kernel
theorem dX5_votesFor_18 : decode cX5_votesFor 18 = .ok (.astore_n 3, 1) := by decide +kernel
theorem dX5_votesFor_19 : decode cX5_votesFor 19 = .ok (.aload_n 3, 1) := by decide +kernel
theorem dX5_votesFor_20 : decode cX5_votesFor 20 = .ok (.arraylength, 1) := by decide +kernel
theorem dX5_votesFor_21 : decode cX5_votesFor 21 = .ok (.istore 4, 2) := by decide +kernel
theorem dX5_votesFor_23 : decode cX5_votesFor 23 = .ok (.iconst 0, 1) := by decide +kernel
theorem dX5_votesFor_24 : decode cX5_votesFor 24 = .ok (.istore 5, 2) := by decide +kernel
theorem dX5_votesFor_26 : decode cX5_votesFor 26 = .ok (.iload 5, 2) := by decide +kernel
theorem dX5_votesFor_28 : decode cX5_votesFor 28 = .ok (.iload 4, 2) := by decide +kernel
theorem dX5_votesFor_30 : decode cX5_votesFor 30 = .ok (.if_icmp .ge 38, 3) := by decide +kernel
theorem dX5_votesFor_33 : decode cX5_votesFor 33 = .ok (.aload_n 3, 1) := by decide +kernel
theorem dX5_votesFor_34 : decode cX5_votesFor 34 = .ok (.iload 5, 2) := by decide +kernel
theorem dX5_votesFor_36 : decode cX5_votesFor 36 = .ok (.iaload, 1) := by decide +kernel
theorem dX5_votesFor_37 : decode cX5_votesFor 37 = .ok (.istore 6, 2) := by decide +kernel
theorem dX5_votesFor_39 : decode cX5_votesFor 39 = .ok (.iload_n 2, 1) := by decide +kernel
theorem dX5_votesFor_40 : decode cX5_votesFor 40 = .ok (.iload 6, 2) := by decide +kernel
theorem dX5_votesFor_42 : decode cX5_votesFor 42 = .ok (.ishr, 1) := by decide +kernel
theorem dX5_votesFor_43 : decode cX5_votesFor 43 = .ok (.iconst 1, 1) := by decide +kernel
theorem dX5_votesFor_44 : decode cX5_votesFor 44 = .ok (.iand, 1) := by decide +kernel
theorem dX5_votesFor_45 : decode cX5_votesFor 45 = .ok (.iconst 1, 1) := by decide +kernel
theorem dX5_votesFor_46 : decode cX5_votesFor 46 = .ok (.if_icmp .ne 16, 3) := by decide +kernel
theorem dX5_votesFor_49 : decode cX5_votesFor 49 = .ok (.aload_n 0, 1) := by decide +kernel
theorem dX5_votesFor_50 : decode cX5_votesFor 50 = .ok (.iload_n 1, 1) := by decide +kernel
theorem dX5_votesFor_51 : decode cX5_votesFor 51 = .ok (.iload 6, 2) := by decide +kernel
theorem dX5_votesFor_53 : decode cX5_votesFor 53 = .ok (.invokevirtual 153, 3) := by decide +kernel
theorem dX5_votesFor_56 : decode cX5_votesFor 56 = .ok (.ifCond .ne 6, 3) := by decide +kernel
theorem dX5_votesFor_59 : decode cX5_votesFor 59 = .ok (.iload 6, 2) := by decide +kernel
theorem dX5_votesFor_61 : decode cX5_votesFor 61 = .ok (.ireturn, 1) := by decide +kernel
theorem dX5_votesFor_62 : decode cX5_votesFor 62 = .ok (.iinc 5 1, 3) := by decide +kernel
theorem dX5_votesFor_65 : decode cX5_votesFor 65 = .ok (.goto (-39), 3) := by decide +kernel
theorem dX5_votesFor_68 : decode cX5_votesFor 68 = .ok (.iconst (-1), 1) := by decide +kernel
theorem dX5_votesFor_69 : decode cX5_votesFor 69 = .ok (.ireturn, 1) := by decide +kernel
set_option maxRecDepth 20000 in
theorem ggX5_counted_J6_bitCount_0f7a4 : GoodIn wsX5_counted wsJ6_bitCount_0f7a4 := goodIn_r _ [8, 9, 10, 11] (by decide +kernel) (by decide +kernel)
set_option maxRecDepth 20000 in
theorem gX5_counted_J6_bitCount_0f7a4 : GoodIn wsX5_counted (va_wsS RX5 111 yJ6_bitCount_0f7a4 wsJ6_bitCount_0f7a4) := goodIn_app (goodIn_of _ (by decide +kernel)) ggX5_counted_J6_bitCount_0f7a4
set_option maxRecDepth 20000 in
theorem ggX5_counted_Jx4a65c_size_8abf5 : GoodIn wsX5_counted wsJx4a65c_size_8abf5 := goodIn_r _ [16, 17, 98, 99, 100] (by decide +kernel) (by decide +kernel)
set_option maxRecDepth 20000 in
theorem gX5_counted_Jx4a65c_size_8abf5 : GoodIn wsX5_counted (wsV RX5 53 RJx4a65c yJx4a65c_size_8abf5 wsJx4a65c_size_8abf5) := goodIn_app (goodIn_of _ (by decide +kernel)) ggX5_counted_Jx4a65c_size_8abf5
set_option maxRecDepth 20000 in
theorem ggX5_counted_Jx4a65c_get_915e3 : GoodIn wsX5_counted wsJx4a65c_get_915e3 := goodIn_r _ [21, 17, 22, 23, 24, 25, 26, 27, 28, 29, 30, 31, 32, 15, 33, 34, 98, 99, 100] (by decide +kernel) (by decide +kernel)
set_option maxRecDepth 20000 in
theorem gX5_counted_Jx4a65c_get_915e3 : GoodIn wsX5_counted (wsV RX5 107 RJx4a65c yJx4a65c_get_915e3 wsJx4a65c_get_915e3) := goodIn_app (goodIn_of _ (by decide +kernel)) ggX5_counted_Jx4a65c_get_915e3
set_option maxRecDepth 20000 in
theorem ggX5_counted_X5_votesFor : GoodIn wsX5_counted wsX5_votesFor := goodIn_r _ [39, 2, 3, 18, 19, 20, 15, 21, 17, 22, 23, 24, 25, 26, 27, 28, 29, 30, 31, 32, 33, 34, 40, 41, 42, 38, 43, 44, 1, 5, 6, 7, 8, 9, 10, 11, 45, 46, 47, 48, 4, 12, 13, 14, 16, 49, 50, 51, 52, 78, 79, 80, 81, 82, 83, 84, 85, 86, 87, 88, 89, 90, 91, 92, 93, 94, 95, 96, 97, 98, 99, 100] (by decide +kernel) (by decide +kernel)
set_option maxRecDepth 20000 in
theorem gX5_counted_X5_votesFor : GoodIn wsX5_counted (wsV RX5 235 RX5 yX5_votesFor wsX5_votesFor) := goodIn_app (goodIn_of _ (by decide +kernel)) ggX5_counted_X5_votesFor
set_option maxRecDepth 20000 in
theorem ggX5_counted_X5_score : GoodIn wsX5_counted wsX5_score := goodIn_r _ [56, 2, 57, 12, 13, 14, 15, 16, 17, 58, 59, 60, 38, 61, 49, 50, 51, 52, 3, 4, 18, 19, 20, 21, 22, 23, 24, 25, 26, 27, 28, 29, 30, 31, 32, 33, 34, 62, 63, 64, 65, 66, 67, 68, 69, 70, 71, 72, 73, 78, 79, 80, 81, 82, 83, 84, 85, 86, 87, 88, 89, 90, 91, 92, 93, 94, 95, 96, 97, 98, 99, 100] (by decide +kernel) (by decide +kernel)
set_option maxRecDepth 20000 in
theorem gX5_counted_X5_score : GoodIn wsX5_counted (wsV RX5 210 RX5 yX5_score wsX5_score) := goodIn_app (goodIn_of _ (by decide +kernel)) ggX5_counted_X5_score
set_option maxRecDepth 20000 in
theorem ggX5_counted_J6_numberOfTrailingZeros_0f7a4 : GoodIn wsX5_counted wsJ6_numberOfTrailingZeros_0f7a4 := goodIn_r _ [76, 77] (by decide +kernel) (by decide +kernel)
set_option maxRecDepth 20000 in
theorem gX5_counted_J6_numberOfTrailingZeros_0f7a4 : GoodIn wsX5_counted (va_wsS RX5 238 yJ6_numberOfTrailingZeros_0f7a4 wsJ6_numberOfTrailingZeros_0f7a4) := goodIn_app (goodIn_of _ (by decide +kernel)) ggX5_counted_J6_numberOfTrailingZeros_0f7a4
theorem dX5_counted_0 : decode cX5_counted 0 = .ok (.iload_n 1, 1) := by decide +kernel
theorem dX5_counted_1 : decode cX5_counted 1 = .ok (.istore_n 3, 1) := by decide +kernel
theorem dX5_counted_2 : decode cX5_counted 2 = .ok (.iload_n 3, 1) := by decide +kernel
theorem dX5_counted_3 : decode cX5_counted 3 = .ok (.invokestatic 111, 3) := by decide +kernel
theorem dX5_counted_6 : decode cX5_counted 6 = .ok (.iconst 1, 1) := by decide +kernel
theorem dX5_counted_7 : decode cX5_counted 7 = .ok (.if_icmp .le 208, 3) := by decide +kernel
theorem dX5_counted_10 : decode cX5_counted 10 = .ok (.bipush 16, 2) := by decide +kernel
theorem dX5_counted_12 : decode cX5_counted 12 = .ok (.newarray .int, 2) := by decide +kernel
theorem dX5_counted_14 : decode cX5_counted 14 = .ok (.astore 4, 2) := by decide +kernel
theorem dX5_counted_16 : decode cX5_counted 16 = .ok (.iconst 0, 1) := by decide +kernel
theorem dX5_counted_17 : decode cX5_counted 17 = .ok (.istore 5, 2) := by decide +kernel
theorem dX5_counted_19 : decode cX5_counted 19 = .ok (.iconst 0, 1) := by decide +kernel
theorem dX5_counted_20 : decode cX5_counted 20 = .ok (.istore 6, 2) := by decide +kernel
theorem dX5_counted_22 : decode cX5_counted 22 = .ok (.iload 6, 2) := by decide +kernel
theorem dX5_counted_24 : decode cX5_counted 24 = .ok (.aload_n 0, 1) := by decide +kernel
theorem dX5_counted_25 : decode cX5_counted 25 = .ok (.getfield 19, 3) := by decide +kernel
theorem dX5_counted_28 : decode cX5_counted 28 = .ok (.invokevirtual 53, 3) := by decide +kernel
theorem dX5_counted_31 : decode cX5_counted 31 = .ok (.if_icmp .ge 70, 3) := by decide +kernel
theorem dX5_counted_34 : decode cX5_counted 34 = .ok (.iload_n 2, 1) := by decide +kernel
theorem dX5_counted_35 : decode cX5_counted 35 = .ok (.iload 6, 2) := by decide +kernel
theorem dX5_counted_37 : decode cX5_counted 37 = .ok (.ishr, 1) := by decide +kernel
theorem dX5_counted_38 : decode cX5_counted 38 = .ok (.iconst 1, 1) := by decide +kernel
theorem dX5_counted_39 : decode cX5_counted 39 = .ok (.iand, 1) := by decide +kernel
theorem dX5_counted_40 : decode cX5_counted 40 = .ok (.iconst 1, 1) := by decide +kernel
theorem dX5_counted_41 : decode cX5_counted 41 = .ok (.if_icmp .eq 54, 3) := by decide +kernel
theorem dX5_counted_44 : decode cX5_counted 44 = .ok (.aload_n 0, 1) := by decide +kernel
theorem dX5_counted_45 : decode cX5_counted 45 = .ok (.getfield 19, 3) := by decide +kernel
theorem dX5_counted_48 : decode cX5_counted 48 = .ok (.iload 6, 2) := by decide +kernel
theorem dX5_counted_50 : decode cX5_counted 50 = .ok (.invokevirtual 107, 3) := by decide +kernel
theorem dX5_counted_53 : decode cX5_counted 53 = .ok (.checkcast 76, 3) := by decide +kernel
theorem dX5_counted_56 : decode cX5_counted 56 = .ok (.bipush 6, 2) := by decide +kernel
theorem dX5_counted_58 : decode cX5_counted 58 = .ok (.iaload, 1) := by decide +kernel
theorem dX5_counted_59 : decode cX5_counted 59 = .ok (.ifCond .ne 6, 3) := by decide +kernel
theorem dX5_counted_62 : decode cX5_counted 62 = .ok (.goto 33, 3) := by decide +kernel
theorem dX5_counted_65 : decode cX5_counted 65 = .ok (.aload_n 0, 1) := by decide +kernel
theorem dX5_counted_66 : decode cX5_counted 66 = .ok (.iload 6, 2) := by decide +kernel
theorem dX5_counted_68 : decode cX5_counted 68 = .ok (.iload_n 3, 1) := by decide +kernel
theorem dX5_counted_69 : decode cX5_counted 69 = .ok (.invokevirtual 235, 3) := by decide +kernel
theorem dX5_counted_72 : decode cX5_counted 72 = .ok (.istore 7, 2) := by decide +kernel
theorem dX5_counted_74 : decode cX5_counted 74 = .ok (.iload 7, 2) := by decide +kernel
theorem dX5_counted_76 : decode cX5_counted 76 = .ok (.iconst (-1), 1) := by decide +kernel
theorem dX5_counted_77 : decode cX5_counted 77 = .ok (.if_icmp .ne 6, 3) := by decide +kernel
theorem dX5_counted_80 : decode cX5_counted 80 = .ok (.goto 15, 3) := by decide +kernel
theorem dX5_counted_83 : decode cX5_counted 83 = .ok (.aload 4, 2) := by decide +kernel
theorem dX5_counted_85 : decode cX5_counted 85 = .ok (.iload 7, 2) := by decide +kernel
theorem dX5_counted_87 : decode cX5_counted 87 = .ok (.dup2, 1) := by decide +kernel
theorem dX5_counted_88 : decode cX5_counted 88 = .ok (.iaload, 1) := by decide +kernel
theorem dX5_counted_89 : decode cX5_counted 89 = .ok (.iconst 1, 1) := by decide +kernel
theorem dX5_counted_90 : decode cX5_counted 90 = .ok (.iadd, 1) := by decide +kernel
theorem dX5_counted_91 : decode cX5_counted 91 = .ok (.iastore, 1) := by decide +kernel
theorem dX5_counted_92 : decode cX5_counted 92 = .ok (.iinc 5 1, 3) := by decide +kernel
theorem dX5_counted_95 : decode cX5_counted 95 = .ok (.iinc 6 1, 3) := by decide +kernel
theorem dX5_counted_98 : decode cX5_counted 98 = .ok (.goto (-76), 3) := by decide +kernel
theorem dX5_counted_101 : decode cX5_counted 101 = .ok (.iconst (-1), 1) := by decide +kernel
theorem dX5_counted_102 : decode cX5_counted 102 = .ok (.istore 6, 2) := by decide +kernel
theorem dX5_counted_104 : decode cX5_counted 104 = .ok (.iconst 0, 1) := by decide +kernel
theorem dX5_counted_105 : decode cX5_counted 105 = .ok (.istore 7, 2) := by decide +kernel
theorem dX5_counted_107 : decode cX5_counted 107 = .ok (.iload 7, 2) := by decide +kernel
theorem dX5_counted_109 : decode cX5_counted 109 = .ok (.aload_n 0, 1) := by decide +kernel
theorem dX5_counted_110 : decode cX5_counted 110 = .ok (.getfield 16, 3) := by decide +kernel
theorem dX5_counted_113 : decode cX5_counted 113 = .ok (.invokevirtual 53, 3) := by decide +kernel
theorem dX5_counted_116 : decode cX5_counted 116 = .ok (.if_icmp .ge 87, 3) := by decide +kernel
theorem dX5_counted_119 : decode cX5_counted 119 = .ok (.iload_n 3, 1) := by decide +kernel
theorem dX5_counted_120 : decode cX5_counted 120 = .ok (.iload 7, 2) := by decide +kernel
theorem dX5_counted_122 : decode cX5_counted 122 = .ok (.ishr, 1) := by decide +kernel
theorem dX5_counted_123 : decode cX5_counted 123 = .ok (.iconst 1, 1) := by decide +kernel
theorem dX5_counted_124 : decode cX5_counted 124 = .ok (.iand, 1) := by decide +kernel
theorem dX5_counted_125 : decode cX5_counted 125 = .ok (.ifCond .ne 6, 3) := by decide +kernel
theorem dX5_counted_128 : decode cX5_counted 128 = .ok (.goto 69, 3) := by decide +kernel
theorem dX5_counted_131 : decode cX5_counted 131 = .ok (.iconst 2, 1) := by decide +kernel
theorem dX5_counted_132 : decode cX5_counted 132 = .ok (.aload 4, 2) := by decide +kernel
theorem dX5_counted_134 : decode cX5_counted 134 = .ok (.iload 7, 2) := by decide +kernel
theorem dX5_counted_136 : decode cX5_counted 136 = .ok (.iaload, 1) := by decide +kernel
theorem dX5_counted_137 : decode cX5_counted 137 = .ok (.imul, 1) := by decide +kernel
theorem dX5_counted_138 : decode cX5_counted 138 = .ok (.iload 5, 2) := by decide +kernel
theorem dX5_counted_140 : decode cX5_counted 140 = .ok (.if_icmp .le 6, 3) := by decide +kernel
theorem dX5_counted_143 : decode cX5_counted 143 = .ok (.iload 7, 2) := by decide +kernel
theorem dX5_counted_145 : decode cX5_counted 145 = .ok (.ireturn, 1) := by decide +kernel
theorem dX5_counted_146 : decode cX5_counted 146 = .ok (.iload 6, 2) := by decide +kernel
theorem dX5_counted_148 : decode cX5_counted 148 = .ok (.iconst (-1), 1) := by decide +kernel
theorem dX5_counted_149 : decode cX5_counted 149 = .ok (.if_icmp .eq 44, 3) := by decide +kernel
theorem dX5_counted_152 : decode cX5_counted 152 = .ok (.aload 4, 2) := by decide +kernel
theorem dX5_counted_154 : decode cX5_counted 154 = .ok (.iload 7, 2) := by decide +kernel
theorem dX5_counted_156 : decode cX5_counted 156 = .ok (.iaload, 1) := by decide +kernel
theorem dX5_counted_157 : decode cX5_counted 157 = .ok (.aload 4, 2) := by decide +kernel
theorem dX5_counted_159 : decode cX5_counted 159 = .ok (.iload 6, 2) := by decide +kernel
theorem dX5_counted_161 : decode cX5_counted 161 = .ok (.iaload, 1) := by decide +kernel
theorem dX5_counted_162 : decode cX5_counted 162 = .ok (.if_icmp .lt 31, 3) := by decide +kernel
theorem dX5_counted_165 : decode cX5_counted 165 = .ok (.aload 4, 2) := by decide +kernel
theorem dX5_counted_167 : decode cX5_counted 167 = .ok (.iload 7, 2) := by decide +kernel
theorem dX5_counted_169 : decode cX5_counted 169 = .ok (.iaload, 1) := by decide +kernel
theorem dX5_counted_170 : decode cX5_counted 170 = .ok (.aload 4, 2) := by decide +kernel
theorem dX5_counted_172 : decode cX5_counted 172 = .ok (.iload 6, 2) := by decide +kernel
theorem dX5_counted_174 : decode cX5_counted 174 = .ok (.iaload, 1) := by decide +kernel
theorem dX5_counted_175 : decode cX5_counted 175 = .ok (.if_icmp .ne 22, 3) := by decide +kernel
theorem dX5_counted_178 : decode cX5_counted 178 = .ok (.aload_n 0, 1) := by decide +kernel
theorem dX5_counted_179 : decode cX5_counted 179 = .ok (.iload 7, 2) := by decide +kernel
theorem dX5_counted_181 : decode cX5_counted 181 = .ok (.invokevirtual 210, 3) := by decide +kernel
theorem dX5_counted_184 : decode cX5_counted 184 = .ok (.aload_n 0, 1) := by decide +kernel
theorem dX5_counted_185 : decode cX5_counted 185 = .ok (.iload 6, 2) := by decide +kernel
theorem dX5_counted_187 : decode cX5_counted 187 = .ok (.invokevirtual 210, 3) := by decide +kernel
theorem dX5_counted_190 : decode cX5_counted 190 = .ok (.if_icmp .gt 7, 3) := by decide +kernel
theorem dX5_counted_193 : decode cX5_counted 193 = .ok (.iload 7, 2) := by decide +kernel
theorem dX5_counted_195 : decode cX5_counted 195 = .ok (.istore 6, 2) := by decide +kernel
theorem dX5_counted_197 : decode cX5_counted 197 = .ok (.iinc 7 1, 3) := by decide +kernel
theorem dX5_counted_200 : decode cX5_counted 200 = .ok (.goto (-93), 3) := by decide +kernel
theorem dX5_counted_203 : decode cX5_counted 203 = .ok (.iload_n 3, 1) := by decide +kernel
theorem dX5_counted_204 : decode cX5_counted 204 = .ok (.iconst 1, 1) := by decide +kernel
theorem dX5_counted_205 : decode cX5_counted 205 = .ok (.iload 6, 2) := by decide +kernel
theorem dX5_counted_207 : decode cX5_counted 207 = .ok (.ishl, 1) := by decide +kernel
theorem dX5_counted_208 : decode cX5_counted 208 = .ok (.iconst (-1), 1) := by decide +kernel
theorem dX5_counted_209 : decode cX5_counted 209 = .ok (.ixor, 1) := by decide +kernel
theorem dX5_counted_210 : decode cX5_counted 210 = .ok (.iand, 1) := by decide +kernel
theorem dX5_counted_211 : decode cX5_counted 211 = .ok (.istore_n 3, 1) := by decide +kernel
theorem dX5_counted_212 : decode cX5_counted 212 = .ok (.goto (-210), 3) := by decide +kernel
theorem dX5_counted_215 : decode cX5_counted 215 = .ok (.iload_n 3, 1) := by decide +kernel
theorem dX5_counted_216 : decode cX5_counted 216 = .ok (.ifCond .ne 7, 3) := by decide +kernel
theorem dX5_counted_219 : decode cX5_counted 219 = .ok (.iconst (-1), 1) := by decide +kernel
theorem dX5_counted_220 : decode cX5_counted 220 = .ok (.goto 7, 3) := by decide +kernel
theorem dX5_counted_223 : decode cX5_counted 223 = .ok (.iload_n 3, 1) := by decide +kernel
theorem dX5_counted_224 : decode cX5_counted 224 = .ok (.invokestatic 238, 3) := by decide +kernel
theorem dX5_counted_227 : decode cX5_counted 227 = .ok (.ireturn, 1) := by decide +kernel
set_option maxRecDepth 20000 in
theorem ggX5_crown_X5_counted : GoodIn wsX5_crown wsX5_counted := goodIn_r _ [8, 9, 10, 11, 12, 13, 14, 15, 16, 17, 18, 19, 20, 21, 22, 23, 24, 25, 26, 27, 28, 29, 30, 31, 32, 33, 34, 35, 36, 37, 38, 39, 40, 41, 42, 43, 44, 45, 7, 46, 47, 48, 49, 50, 1, 51, 52, 53, 54, 55, 56, 57, 58, 59, 60, 61, 62, 63, 64, 65, 66, 67, 68, 69, 70, 71, 72, 73, 74, 75, 76, 77, 78, 79, 80, 81, 82, 83, 89, 90, 91, 92, 93, 94, 95, 96, 97, 98, 99, 100, 101, 102, 103, 104, 105, 106, 107, 108, 109, 110, 111] (by decide +kernel) (by decide +kernel)
set_option maxRecDepth 20000 in
theorem gX5_crown_X5_counted : GoodIn wsX5_crown (wsV RX5 241 RX5 yX5_counted wsX5_counted) := goodIn_app (goodIn_of _ (by decide +kernel)) ggX5_crown_X5_counted
set_option maxRecDepth 20000 in
theorem ggX5_crown_X5_houseOf : GoodIn wsX5_crown wsX5_houseOf := goodIn_r _ [87, 88, 12, 11, 26, 27, 28, 23, 29, 25, 30, 31, 32, 33, 34, 35, 36, 37, 38, 39, 40, 41, 42, 89, 90, 91, 92, 93, 94, 95, 96, 97, 98, 99, 100, 101, 102, 103, 104, 105, 106, 107, 108, 109, 110, 111] (by decide +kernel) (by decide +kernel)
set_option maxRecDepth 20000 in
theorem gX5_crown_X5_houseOf : GoodIn wsX5_crown (wsV RX5 134 RX5 yX5_houseOf wsX5_houseOf) := goodIn_app (goodIn_of _ (by decide +kernel)) ggX5_crown_X5_houseOf
theorem dX5_crown_0 : decode cX5_crown 0 = .ok (.aload_n 0, 1) := by decide +kernel
theorem dX5_crown_1 : decode cX5_crown 1 = .ok (.aload_n 0, 1) := by decide +kernel
theorem dX5_crown_2 : decode cX5_crown 2 = .ok (.aload_n 0, 1) := by decide +kernel
theorem dX5_crown_3 : decode cX5_crown 3 = .ok (.getfield 80, 3) := by decide +kernel
theorem dX5_crown_6 : decode cX5_crown 6 = .ok (.aload_n 0, 1) := by decide +kernel
theorem dX5_crown_7 : decode cX5_crown 7 = .ok (.getfield 83, 3) := by decide +kernel
theorem dX5_crown_10 : decode cX5_crown 10 = .ok (.iconst (-1), 1) := by decide +kernel
theorem dX5_crown_11 : decode cX5_crown 11 = .ok (.ixor, 1) := by decide +kernel
theorem dX5_crown_12 : decode cX5_crown 12 = .ok (.iand, 1) := by decide +kernel
theorem dX5_crown_13 : decode cX5_crown 13 = .ok (.iconst 0, 1) := by decide +kernel
theorem dX5_crown_14 : decode cX5_crown 14 = .ok (.invokevirtual 241, 3) := by decide +kernel
theorem dX5_crown_17 : decode cX5_crown 17 = .ok (.putfield 40, 3) := by decide +kernel
theorem dX5_crown_20 : decode cX5_crown 20 = .ok (.aload_n 0, 1) := by decide +kernel
theorem dX5_crown_21 : decode cX5_crown 21 = .ok (.getfield 40, 3) := by decide +kernel
theorem dX5_crown_24 : decode cX5_crown 24 = .ok (.iconst (-1), 1) := by decide +kernel
theorem dX5_crown_25 : decode cX5_crown 25 = .ok (.if_icmp .eq 17, 3) := by decide +kernel
theorem dX5_crown_28 : decode cX5_crown 28 = .ok (.aload_n 0, 1) := by decide +kernel
theorem dX5_crown_29 : decode cX5_crown 29 = .ok (.aload_n 0, 1) := by decide +kernel
theorem dX5_crown_30 : decode cX5_crown 30 = .ok (.getfield 40, 3) := by decide +kernel
theorem dX5_crown_33 : decode cX5_crown 33 = .ok (.invokevirtual 134, 3) := by decide +kernel
theorem dX5_crown_36 : decode cX5_crown 36 = .ok (.iconst 2, 1) := by decide +kernel
theorem dX5_crown_37 : decode cX5_crown 37 = .ok (.dup2, 1) := by decide +kernel
theorem dX5_crown_38 : decode cX5_crown 38 = .ok (.iaload, 1) := by decide +kernel
theorem dX5_crown_39 : decode cX5_crown 39 = .ok (.iconst 1, 1) := by decide +kernel
theorem dX5_crown_40 : decode cX5_crown 40 = .ok (.iadd, 1) := by decide +kernel
theorem dX5_crown_41 : decode cX5_crown 41 = .ok (.iastore, 1) := by decide +kernel
theorem dX5_crown_42 : decode cX5_crown 42 = .ok (.return_, 1) := by decide +kernel
set_option maxRecDepth 20000 in
theorem ggX5_end_X5_refuse : GoodIn wsX5_end wsX5_refuse := goodIn_r _ [8, 1, 99, 100, 101, 102, 103, 104, 105, 106, 107, 108, 109, 110, 111, 112, 113, 114, 115, 116, 117, 118] (by decide +kernel) (by decide +kernel)
set_option maxRecDepth 20000 in
theorem gX5_end_X5_refuse : GoodIn wsX5_end (wsV RX5 86 RX5 yX5_refuse wsX5_refuse) := goodIn_app (goodIn_of _ (by decide +kernel)) ggX5_end_X5_refuse
set_option maxRecDepth 20000 in
theorem ggX5_end_X5_crown : GoodIn wsX5_end wsX5_crown := goodIn_r _ [12, 13, 14, 3, 15, 16, 17, 7, 18, 19, 20, 21, 22, 23, 24, 25, 26, 27, 28, 29, 30, 31, 32, 33, 34, 35, 36, 37, 38, 39, 40, 41, 42, 43, 44, 45, 46, 47, 48, 49, 50, 51, 52, 53, 54, 55, 56, 57, 58, 59, 60, 61, 62, 63, 64, 65, 66, 67, 68, 69, 70, 71, 72, 73, 74, 75, 76, 77, 78, 79, 80, 81, 82, 83, 84, 85, 86, 87, 88, 89, 90, 91, 92, 93, 94, 95, 96, 97, 98, 99, 100, 101, 102, 103, 104, 105, 106, 107, 108, 109, 110, 111, 112, 113, 114, 115, 116, 117, 118, 119, 120, 121] (by decide +kernel) (by decide +kernel)
set_option maxRecDepth 20000 in
theorem gX5_end_X5_crown : GoodIn wsX5_end (wsV RX5 244 RX5 yX5_crown wsX5_crown) := goodIn_app (goodIn_of _ (by decide +kernel)) ggX5_end_X5_crown
theorem dX5_end_0 : decode cX5_end 0 = .ok (.aload_n 0, 1) := by decide +kernel
theorem dX5_end_1 : decode cX5_end 1 = .ok (.iconst 0, 1) := by decide +kernel
theorem dX5_end_2 : decode cX5_end 2 = .ok (.putfield 50, 3) := by decide +kernel
theorem dX5_end_5 : decode cX5_end 5 = .ok (.aload_n 0, 1) := by decide +kernel
theorem dX5_end_6 : decode cX5_end 6 = .ok (.getfield 101, 3) := by decide +kernel
theorem dX5_end_9 : decode cX5_end 9 = .ok (.iconst 3, 1) := by decide +kernel
theorem dX5_end_10 : decode cX5_end 10 = .ok (.if_icmp .eq 9, 3) := by decide +kernel
theorem dX5_end_13 : decode cX5_end 13 = .ok (.aload_n 0, 1) := by decide +kernel
theorem dX5_end_14 : decode cX5_end 14 = .ok (.iconst 1, 1) := by decide +kernel
theorem dX5_end_15 : decode cX5_end 15 = .ok (.invokevirtual 86, 3) := by decide +kernel
theorem dX5_end_18 : decode cX5_end 18 = .ok (.ireturn, 1) := by decide +kernel
theorem dX5_end_19 : decode cX5_end 19 = .ok (.aload_n 0, 1) := by decide +kernel
theorem dX5_end_20 : decode cX5_end 20 = .ok (.iconst 4, 1) := by decide +kernel
theorem dX5_end_21 : decode cX5_end 21 = .ok (.putfield 101, 3) := by decide +kernel
theorem dX5_end_24 : decode cX5_end 24 = .ok (.aload_n 0, 1) := by decide +kernel
theorem dX5_end_25 : decode cX5_end 25 = .ok (.invokevirtual 244, 3) := by decide +kernel
theorem dX5_end_28 : decode cX5_end 28 = .ok (.aload_n 0, 1) := by decide +kernel
theorem dX5_end_29 : decode cX5_end 29 = .ok (.getfield 40, 3) := by decide +kernel
theorem dX5_end_32 : decode cX5_end 32 = .ok (.ireturn, 1) := by decide +kernel
set_option maxRecDepth 20000 in
theorem ggX5_strip_X5_refuse : GoodIn wsX5_strip wsX5_refuse := goodIn_r _ [10, 1, 100, 101, 102, 103, 104, 105, 106, 107, 108, 109, 110, 111, 112, 113, 114, 115, 116, 117, 118, 119] (by decide +kernel) (by decide +kernel)
set_option maxRecDepth 20000 in
theorem gX5_strip_X5_refuse : GoodIn wsX5_strip (wsV RX5 86 RX5 yX5_refuse wsX5_refuse) := goodIn_app (goodIn_of _ (by decide +kernel)) ggX5_strip_X5_refuse
set_option maxRecDepth 20000 in
theorem ggX5_strip_X5_houseOf : GoodIn wsX5_strip wsX5_houseOf := goodIn_r _ [14, 15, 16, 17, 18, 19, 20, 21, 22, 23, 24, 25, 26, 27, 28, 29, 30, 31, 32, 33, 34, 35, 36, 100, 101, 102, 103, 104, 105, 106, 107, 108, 109, 110, 111, 112, 113, 114, 115, 116, 117, 118, 119, 120, 121, 122] (by decide +kernel) (by decide +kernel)
set_option maxRecDepth 20000 in
theorem gX5_strip_X5_houseOf : GoodIn wsX5_strip (wsV RX5 134 RX5 yX5_houseOf wsX5_houseOf) := goodIn_app (goodIn_of _ (by decide +kernel)) ggX5_strip_X5_houseOf
set_option maxRecDepth 20000 in
theorem ggX5_strip_X5_crown : GoodIn wsX5_strip wsX5_crown := goodIn_r _ [40, 41, 4, 3, 42, 43, 44, 9, 45, 46, 47, 17, 16, 48, 49, 50, 51, 52, 53, 54, 55, 56, 57, 21, 58, 23, 18, 19, 20, 22, 24, 25, 26, 27, 28, 29, 30, 31, 32, 33, 34, 35, 36, 59, 60, 61, 62, 63, 64, 65, 66, 67, 68, 69, 70, 71, 72, 73, 74, 75, 76, 77, 78, 79, 80, 81, 82, 83, 84, 85, 86, 87, 88, 89, 90, 91, 92, 93, 94, 95, 96, 97, 98, 99, 11, 12, 13, 14, 15, 100, 101, 102, 103, 104, 105, 106, 107, 108, 109, 110, 111, 112, 113, 114, 115, 116, 117, 118, 119, 120, 121, 122] (by decide +kernel) (by decide +kernel)
set_option maxRecDepth 20000 in
theorem gX5_strip_X5_crown : GoodIn wsX5_strip (wsV RX5 244 RX5 yX5_crown wsX5_crown) := goodIn_app (goodIn_of _ (by decide +kernel)) ggX5_strip_X5_crown
theorem dX5_strip_0 : decode cX5_strip 0 = .ok (.aload_n 0, 1) := by decide +kernel
theorem dX5_strip_1 : decode cX5_strip 1 = .ok (.iconst 0, 1) := by decide +kernel
theorem dX5_strip_2 : decode cX5_strip 2 = .ok (.putfield 50, 3) := by decide +kernel
theorem dX5_strip_5 : decode cX5_strip 5 = .ok (.aload_n 0, 1) := by decide +kernel
theorem dX5_strip_6 : decode cX5_strip 6 = .ok (.getfield 101, 3) := by decide +kernel
theorem dX5_strip_9 : decode cX5_strip 9 = .ok (.iconst 4, 1) := by decide +kernel
theorem dX5_strip_10 : decode cX5_strip 10 = .ok (.if_icmp .ne 11, 3) := by decide +kernel
theorem dX5_strip_13 : decode cX5_strip 13 = .ok (.aload_n 0, 1) := by decide +kernel
theorem dX5_strip_14 : decode cX5_strip 14 = .ok (.getfield 40, 3) := by decide +kernel
theorem dX5_strip_17 : decode cX5_strip 17 = .ok (.iconst (-1), 1) := by decide +kernel
theorem dX5_strip_18 : decode cX5_strip 18 = .ok (.if_icmp .ne 9, 3) := by decide +kernel
theorem dX5_strip_21 : decode cX5_strip 21 = .ok (.aload_n 0, 1) := by decide +kernel
theorem dX5_strip_22 : decode cX5_strip 22 = .ok (.iconst 1, 1) := by decide +kernel
theorem dX5_strip_23 : decode cX5_strip 23 = .ok (.invokevirtual 86, 3) := by decide +kernel
theorem dX5_strip_26 : decode cX5_strip 26 = .ok (.ireturn, 1) := by decide +kernel
theorem dX5_strip_27 : decode cX5_strip 27 = .ok (.aload_n 0, 1) := by decide +kernel
theorem dX5_strip_28 : decode cX5_strip 28 = .ok (.aload_n 0, 1) := by decide +kernel
theorem dX5_strip_29 : decode cX5_strip 29 = .ok (.getfield 40, 3) := by decide +kernel
theorem dX5_strip_32 : decode cX5_strip 32 = .ok (.invokevirtual 134, 3) := by decide +kernel
theorem dX5_strip_35 : decode cX5_strip 35 = .ok (.iconst 2, 1) := by decide +kernel
theorem dX5_strip_36 : decode cX5_strip 36 = .ok (.dup2, 1) := by decide +kernel
theorem dX5_strip_37 : decode cX5_strip 37 = .ok (.iaload, 1) := by decide +kernel
theorem dX5_strip_38 : decode cX5_strip 38 = .ok (.iconst 1, 1) := by decide +kernel
theorem dX5_strip_39 : decode cX5_strip 39 = .ok (.isub, 1) := by decide +kernel
theorem dX5_strip_40 : decode cX5_strip 40 = .ok (.iastore, 1) := by decide +kernel
theorem dX5_strip_41 : decode cX5_strip 41 = .ok (.aload_n 0, 1) := by decide +kernel
theorem dX5_strip_42 : decode cX5_strip 42 = .ok (.dup, 1) := by decide +kernel
theorem dX5_strip_43 : decode cX5_strip 43 = .ok (.getfield 83, 3) := by decide +kernel
theorem dX5_strip_46 : decode cX5_strip 46 = .ok (.iconst 1, 1) := by decide +kernel
theorem dX5_strip_47 : decode cX5_strip 47 = .ok (.aload_n 0, 1) := by decide +kernel
theorem dX5_strip_48 : decode cX5_strip 48 = .ok (.getfield 40, 3) := by decide +kernel
theorem dX5_strip_51 : decode cX5_strip 51 = .ok (.ishl, 1) := by decide +kernel
theorem dX5_strip_52 : decode cX5_strip 52 = .ok (.ior, 1) := by decide +kernel
theorem dX5_strip_53 : decode cX5_strip 53 = .ok (.putfield 83, 3) := by decide +kernel
theorem dX5_strip_56 : decode cX5_strip 56 = .ok (.aload_n 0, 1) := by decide +kernel
theorem dX5_strip_57 : decode cX5_strip 57 = .ok (.dup, 1) := by decide +kernel
theorem dX5_strip_58 : decode cX5_strip 58 = .ok (.getfield 247, 3) := by decide +kernel
theorem dX5_strip_61 : decode cX5_strip 61 = .ok (.iconst 1, 1) := by decide +kernel
theorem dX5_strip_62 : decode cX5_strip 62 = .ok (.iadd, 1) := by decide +kernel
theorem dX5_strip_63 : decode cX5_strip 63 = .ok (.putfield 247, 3) := by decide +kernel
theorem dX5_strip_66 : decode cX5_strip 66 = .ok (.aload_n 0, 1) := by decide +kernel
theorem dX5_strip_67 : decode cX5_strip 67 = .ok (.invokevirtual 244, 3) := by decide +kernel
theorem dX5_strip_70 : decode cX5_strip 70 = .ok (.aload_n 0, 1) := by decide +kernel
theorem dX5_strip_71 : decode cX5_strip 71 = .ok (.getfield 40, 3) := by decide +kernel
theorem dX5_strip_74 : decode cX5_strip 74 = .ok (.ireturn, 1) := by decide +kernel
set_option maxRecDepth 20000 in
theorem ggX5_next_X5_refuse : GoodIn wsX5_next wsX5_refuse := goodIn_r _ [18, 1, 72, 73, 74, 75, 76, 77, 78, 79, 80, 81, 82, 83, 84, 85, 86, 87, 88, 89, 90, 91] (by decide +kernel) (by decide +kernel)
set_option maxRecDepth 20000 in
theorem gX5_next_X5_refuse : GoodIn wsX5_next (wsV RX5 86 RX5 yX5_refuse wsX5_refuse) := goodIn_app (goodIn_of _ (by decide +kernel)) ggX5_next_X5_refuse
set_option maxRecDepth 20000 in
theorem ggX5_next_X5_clear : GoodIn wsX5_next wsX5_clear := goodIn_r _ [22, 23, 24, 25, 26, 27, 28, 29, 6, 30, 31, 4, 32, 33, 34, 35, 36, 37, 38, 39, 40, 41, 42, 43, 44, 45, 46, 47, 48, 49, 50, 51, 52, 53, 54, 55, 56, 57, 58, 59, 60, 61, 62, 63, 64, 65, 66, 67, 68, 69, 70, 71, 72, 73, 74, 75, 76, 77, 78, 79, 80, 81, 82, 83, 84, 85, 86, 87, 88, 89, 90, 91, 92, 93, 94, 95, 96, 97, 98] (by decide +kernel) (by decide +kernel)
set_option maxRecDepth 20000 in
theorem gX5_next_X5_clear : GoodIn wsX5_next (wsV RX5 47 RX5 yX5_clear wsX5_clear) := goodIn_app (goodIn_of _ (by decide +kernel)) ggX5_next_X5_clear
theorem dX5_next_0 : decode cX5_next 0 = .ok (.aload_n 0, 1) := by decide +kernel
theorem dX5_next_1 : decode cX5_next 1 = .ok (.iconst 0, 1) := by decide +kernel
theorem dX5_next_2 : decode cX5_next 2 = .ok (.putfield 50, 3) := by decide +kernel
theorem dX5_next_5 : decode cX5_next 5 = .ok (.aload_n 0, 1) := by decide +kernel
theorem dX5_next_6 : decode cX5_next 6 = .ok (.getfield 101, 3) := by decide +kernel
theorem dX5_next_9 : decode cX5_next 9 = .ok (.iconst 4, 1) := by decide +kernel
theorem dX5_next_10 : decode cX5_next 10 = .ok (.if_icmp .ne 12, 3) := by decide +kernel
theorem dX5_next_13 : decode cX5_next 13 = .ok (.aload_n 0, 1) := by decide +kernel
theorem dX5_next_14 : decode cX5_next 14 = .ok (.getfield 98, 3) := by decide +kernel
theorem dX5_next_17 : decode cX5_next 17 = .ok (.bipush 20, 2) := by decide +kernel
theorem dX5_next_19 : decode cX5_next 19 = .ok (.if_icmp .ne 9, 3) := by decide +kernel
theorem dX5_next_22 : decode cX5_next 22 = .ok (.aload_n 0, 1) := by decide +kernel
theorem dX5_next_23 : decode cX5_next 23 = .ok (.iconst 1, 1) := by decide +kernel
theorem dX5_next_24 : decode cX5_next 24 = .ok (.invokevirtual 86, 3) := by decide +kernel
theorem dX5_next_27 : decode cX5_next 27 = .ok (.ireturn, 1) := by decide +kernel
theorem dX5_next_28 : decode cX5_next 28 = .ok (.aload_n 0, 1) := by decide +kernel
theorem dX5_next_29 : decode cX5_next 29 = .ok (.dup, 1) := by decide +kernel
theorem dX5_next_30 : decode cX5_next 30 = .ok (.getfield 98, 3) := by decide +kernel
theorem dX5_next_33 : decode cX5_next 33 = .ok (.iconst 1, 1) := by decide +kernel
theorem dX5_next_34 : decode cX5_next 34 = .ok (.iadd, 1) := by decide +kernel
theorem dX5_next_35 : decode cX5_next 35 = .ok (.putfield 98, 3) := by decide +kernel
theorem dX5_next_38 : decode cX5_next 38 = .ok (.aload_n 0, 1) := by decide +kernel
theorem dX5_next_39 : decode cX5_next 39 = .ok (.iconst 0, 1) := by decide +kernel
theorem dX5_next_40 : decode cX5_next 40 = .ok (.putfield 101, 3) := by decide +kernel
theorem dX5_next_43 : decode cX5_next 43 = .ok (.aload_n 0, 1) := by decide +kernel
theorem dX5_next_44 : decode cX5_next 44 = .ok (.aload_n 0, 1) := by decide +kernel
theorem dX5_next_45 : decode cX5_next 45 = .ok (.getfield 40, 3) := by decide +kernel
theorem dX5_next_48 : decode cX5_next 48 = .ok (.putfield 44, 3) := by decide +kernel
theorem dX5_next_51 : decode cX5_next 51 = .ok (.aload_n 0, 1) := by decide +kernel
theorem dX5_next_52 : decode cX5_next 52 = .ok (.aload_n 0, 1) := by decide +kernel
theorem dX5_next_53 : decode cX5_next 53 = .ok (.getfield 77, 3) := by decide +kernel
theorem dX5_next_56 : decode cX5_next 56 = .ok (.putfield 122, 3) := by decide +kernel
theorem dX5_next_59 : decode cX5_next 59 = .ok (.aload_n 0, 1) := by decide +kernel
theorem dX5_next_60 : decode cX5_next 60 = .ok (.invokevirtual 47, 3) := by decide +kernel
theorem dX5_next_63 : decode cX5_next 63 = .ok (.aload_n 0, 1) := by decide +kernel
theorem dX5_next_64 : decode cX5_next 64 = .ok (.getfield 26, 3) := by decide +kernel
theorem dX5_next_67 : decode cX5_next 67 = .ok (.iconst 0, 1) := by decide +kernel
theorem dX5_next_68 : decode cX5_next 68 = .ok (.aload_n 0, 1) := by decide +kernel
theorem dX5_next_69 : decode cX5_next 69 = .ok (.getfield 22, 3) := by decide +kernel
theorem dX5_next_72 : decode cX5_next 72 = .ok (.iconst 0, 1) := by decide +kernel
theorem dX5_next_73 : decode cX5_next 73 = .ok (.iconst 4, 1) := by decide +kernel
theorem dX5_next_74 : decode cX5_next 74 = .ok (.invokestatic 116, 3) := by decide +kernel
theorem dX5_next_77 : decode cX5_next 77 = .ok (.aload_n 0, 1) := by decide +kernel
theorem dX5_next_78 : decode cX5_next 78 = .ok (.getfield 98, 3) := by decide +kernel
theorem dX5_next_81 : decode cX5_next 81 = .ok (.ireturn, 1) := by decide +kernel
set_option maxRecDepth 20000 in
theorem ggX5_ofHouseNow_Jx4a65c_get_915e3 : GoodIn wsX5_ofHouseNow wsJx4a65c_get_915e3 := goodIn_r _ [9, 10, 11, 12, 13, 14, 15, 16, 17, 18, 19, 20, 21, 8, 22, 23, 90, 91, 92] (by decide +kernel) (by decide +kernel)
set_option maxRecDepth 20000 in
theorem gX5_ofHouseNow_Jx4a65c_get_915e3 : GoodIn wsX5_ofHouseNow (wsV RX5 107 RJx4a65c yJx4a65c_get_915e3 wsJx4a65c_get_915e3) := goodIn_app (goodIn_of _ (by decide +kernel)) ggX5_ofHouseNow_Jx4a65c_get_915e3
set_option maxRecDepth 20000 in
theorem ggX5_ofHouseNow_Jx4a65c_iterator_32c93 : GoodIn wsX5_ofHouseNow wsJx4a65c_iterator_32c93 := goodIn_r _ [27, 28, 29, 30, 31, 32, 33, 34, 35, 36, 37, 38, 39, 40, 41, 93, 94, 95, 96, 90, 91, 92] (by decide +kernel) (by decide +kernel)
set_option maxRecDepth 20000 in
theorem gX5_ofHouseNow_Jx4a65c_iterator_32c93 : GoodIn wsX5_ofHouseNow (wsV RX5 61 RJx4a65c yJx4a65c_iterator_32c93 wsJx4a65c_iterator_32c93) := goodIn_app (goodIn_of _ (by decide +kernel)) ggX5_ofHouseNow_Jx4a65c_iterator_32c93
set_option maxRecDepth 20000 in
theorem ggX5_ofHouseNow_Jx35411_hasNext_aae02 : GoodIn wsX5_ofHouseNow wsJx35411_hasNext_aae02 := goodIn_r _ [45, 46, 34, 93, 94, 95, 96, 90, 91, 92] (by decide +kernel) (by decide +kernel)
set_option maxRecDepth 20000 in
theorem gX5_ofHouseNow_Jx35411_hasNext_aae02_f65Jx35411 : GoodIn wsX5_ofHouseNow (va_wsF RX5 65 RJx35411 ⟨"java/util/Iterator", "hasNext", "()Z"⟩ yJx35411_hasNext_aae02 wsJx35411_hasNext_aae02) := goodIn_app (goodIn_of _ (by decide +kernel)) ggX5_ofHouseNow_Jx35411_hasNext_aae02
set_option maxRecDepth 20000 in
theorem ggX5_ofHouseNow_Jx35411_next_0502b : GoodIn wsX5_ofHouseNow wsJx35411_next_0502b := goodIn_r _ [50, 46, 34, 51, 38, 52, 53, 54, 30, 55, 39, 40, 41, 93, 94, 95, 96, 90, 91, 92] (by decide +kernel) (by decide +kernel)
set_option maxRecDepth 20000 in
theorem gX5_ofHouseNow_Jx35411_next_0502b_f71Jx35411 : GoodIn wsX5_ofHouseNow (va_wsF RX5 71 RJx35411 ⟨"java/util/Iterator", "next", "()Ljava/lang/Object;"⟩ yJx35411_next_0502b wsJx35411_next_0502b) := goodIn_app (goodIn_of _ (by decide +kernel)) ggX5_ofHouseNow_Jx35411_next_0502b
set_option maxRecDepth 20000 in
theorem ggX5_ofHouseNow_X5_quota : GoodIn wsX5_ofHouseNow wsX5_quota := goodIn_r _ [60, 3, 61, 2, 62, 63, 64, 65, 66, 67, 68, 8, 69, 10, 5, 6, 7, 9, 11, 12, 13, 14, 15, 16, 17, 18, 19, 20, 21, 22, 23, 70, 71, 72, 73, 74, 75, 76, 77, 78, 79, 80, 81, 82, 83, 84, 85, 86, 87, 88, 89, 90, 91, 92] (by decide +kernel) (by decide +kernel)
set_option maxRecDepth 20000 in
theorem gX5_ofHouseNow_X5_quota : GoodIn wsX5_ofHouseNow (wsV RX5 147 RX5 yX5_quota wsX5_quota) := goodIn_app (goodIn_of _ (by decide +kernel)) ggX5_ofHouseNow_X5_quota
theorem dX5_ofHouseNow_0 : decode cX5_ofHouseNow 0 = .ok (.aload_n 0, 1) := by decide +kernel
theorem dX5_ofHouseNow_1 : decode cX5_ofHouseNow 1 = .ok (.getfield 10, 3) := by decide +kernel
theorem dX5_ofHouseNow_4 : decode cX5_ofHouseNow 4 = .ok (.iload_n 1, 1) := by decide +kernel
theorem dX5_ofHouseNow_5 : decode cX5_ofHouseNow 5 = .ok (.invokevirtual 107, 3) := by decide +kernel
theorem dX5_ofHouseNow_8 : decode cX5_ofHouseNow 8 = .ok (.checkcast 76, 3) := by decide +kernel
theorem dX5_ofHouseNow_11 : decode cX5_ofHouseNow 11 = .ok (.astore_n 3, 1) := by decide +kernel
theorem dX5_ofHouseNow_12 : decode cX5_ofHouseNow 12 = .ok (.iconst 0, 1) := by decide +kernel
theorem dX5_ofHouseNow_13 : decode cX5_ofHouseNow 13 = .ok (.istore 4, 2) := by decide +kernel
theorem dX5_ofHouseNow_15 : decode cX5_ofHouseNow 15 = .ok (.aload_n 0, 1) := by decide +kernel
theorem dX5_ofHouseNow_16 : decode cX5_ofHouseNow 16 = .ok (.getfield 16, 3) := by decide +kernel
theorem dX5_ofHouseNow_19 : decode cX5_ofHouseNow 19 = .ok (.invokevirtual 61, 3) := by decide +kernel
theorem dX5_ofHouseNow_22 : decode cX5_ofHouseNow 22 = .ok (.astore 5, 2) := by decide +kernel
theorem dX5_ofHouseNow_24 : decode cX5_ofHouseNow 24 = .ok (.aload 5, 2) := by decide +kernel
theorem dX5_ofHouseNow_26 : decode cX5_ofHouseNow 26 = .ok (.invokeinterface 65 1, 5) := by decide +kernel
theorem dX5_ofHouseNow_31 : decode cX5_ofHouseNow 31 = .ok (.ifCond .eq 36, 3) := by decide +kernel
theorem dX5_ofHouseNow_34 : decode cX5_ofHouseNow 34 = .ok (.aload 5, 2) := by decide +kernel
theorem dX5_ofHouseNow_36 : decode cX5_ofHouseNow 36 = .ok (.invokeinterface 71 1, 5) := by decide +kernel
theorem dX5_ofHouseNow_41 : decode cX5_ofHouseNow 41 = .ok (.checkcast 76, 3) := by decide +kernel
theorem dX5_ofHouseNow_44 : decode cX5_ofHouseNow 44 = .ok (.astore 6, 2) := by decide +kernel
theorem dX5_ofHouseNow_46 : decode cX5_ofHouseNow 46 = .ok (.iload 4, 2) := by decide +kernel
theorem dX5_ofHouseNow_48 : decode cX5_ofHouseNow 48 = .ok (.aload 6, 2) := by decide +kernel
theorem dX5_ofHouseNow_50 : decode cX5_ofHouseNow 50 = .ok (.iconst 0, 1) := by decide +kernel
theorem dX5_ofHouseNow_51 : decode cX5_ofHouseNow 51 = .ok (.iaload, 1) := by decide +kernel
theorem dX5_ofHouseNow_52 : decode cX5_ofHouseNow 52 = .ok (.iload_n 1, 1) := by decide +kernel
theorem dX5_ofHouseNow_53 : decode cX5_ofHouseNow 53 = .ok (.if_icmp .ne 7, 3) := by decide +kernel
theorem dX5_ofHouseNow_56 : decode cX5_ofHouseNow 56 = .ok (.iconst 1, 1) := by decide +kernel
theorem dX5_ofHouseNow_57 : decode cX5_ofHouseNow 57 = .ok (.goto 4, 3) := by decide +kernel
theorem dX5_ofHouseNow_60 : decode cX5_ofHouseNow 60 = .ok (.iconst 0, 1) := by decide +kernel
theorem dX5_ofHouseNow_61 : decode cX5_ofHouseNow 61 = .ok (.iadd, 1) := by decide +kernel
theorem dX5_ofHouseNow_62 : decode cX5_ofHouseNow 62 = .ok (.istore 4, 2) := by decide +kernel
theorem dX5_ofHouseNow_64 : decode cX5_ofHouseNow 64 = .ok (.goto (-40), 3) := by decide +kernel
theorem dX5_ofHouseNow_67 : decode cX5_ofHouseNow 67 = .ok (.iconst 5, 1) := by decide +kernel
theorem dX5_ofHouseNow_68 : decode cX5_ofHouseNow 68 = .ok (.newarray .int, 2) := by decide +kernel
theorem dX5_ofHouseNow_70 : decode cX5_ofHouseNow 70 = .ok (.dup, 1) := by decide +kernel
theorem dX5_ofHouseNow_71 : decode cX5_ofHouseNow 71 = .ok (.iconst 0, 1) := by decide +kernel
theorem dX5_ofHouseNow_72 : decode cX5_ofHouseNow 72 = .ok (.aload_n 3, 1) := by decide +kernel
theorem dX5_ofHouseNow_73 : decode cX5_ofHouseNow 73 = .ok (.iconst 0, 1) := by decide +kernel
theorem dX5_ofHouseNow_74 : decode cX5_ofHouseNow 74 = .ok (.iaload, 1) := by decide +kernel
theorem dX5_ofHouseNow_75 : decode cX5_ofHouseNow 75 = .ok (.iastore, 1) := by decide +kernel
theorem dX5_ofHouseNow_76 : decode cX5_ofHouseNow 76 = .ok (.dup, 1) := by decide +kernel
theorem dX5_ofHouseNow_77 : decode cX5_ofHouseNow 77 = .ok (.iconst 1, 1) := by decide +kernel
theorem dX5_ofHouseNow_78 : decode cX5_ofHouseNow 78 = .ok (.aload_n 0, 1) := by decide +kernel
theorem dX5_ofHouseNow_79 : decode cX5_ofHouseNow 79 = .ok (.iload_n 1, 1) := by decide +kernel
theorem dX5_ofHouseNow_80 : decode cX5_ofHouseNow 80 = .ok (.invokevirtual 147, 3) := by decide +kernel
theorem dX5_ofHouseNow_83 : decode cX5_ofHouseNow 83 = .ok (.iastore, 1) := by decide +kernel
theorem dX5_ofHouseNow_84 : decode cX5_ofHouseNow 84 = .ok (.dup, 1) := by decide +kernel
theorem dX5_ofHouseNow_85 : decode cX5_ofHouseNow 85 = .ok (.iconst 2, 1) := by decide +kernel
theorem dX5_ofHouseNow_86 : decode cX5_ofHouseNow 86 = .ok (.aload_n 3, 1) := by decide +kernel
theorem dX5_ofHouseNow_87 : decode cX5_ofHouseNow 87 = .ok (.iconst 1, 1) := by decide +kernel
theorem dX5_ofHouseNow_88 : decode cX5_ofHouseNow 88 = .ok (.iaload, 1) := by decide +kernel
theorem dX5_ofHouseNow_89 : decode cX5_ofHouseNow 89 = .ok (.iastore, 1) := by decide +kernel
theorem dX5_ofHouseNow_90 : decode cX5_ofHouseNow 90 = .ok (.dup, 1) := by decide +kernel
theorem dX5_ofHouseNow_91 : decode cX5_ofHouseNow 91 = .ok (.iconst 3, 1) := by decide +kernel
theorem dX5_ofHouseNow_92 : decode cX5_ofHouseNow 92 = .ok (.iload 4, 2) := by decide +kernel
theorem dX5_ofHouseNow_94 : decode cX5_ofHouseNow 94 = .ok (.iastore, 1) := by decide +kernel
theorem dX5_ofHouseNow_95 : decode cX5_ofHouseNow 95 = .ok (.dup, 1) := by decide +kernel
theorem dX5_ofHouseNow_96 : decode cX5_ofHouseNow 96 = .ok (.iconst 4, 1) := by decide +kernel
theorem dX5_ofHouseNow_97 : decode cX5_ofHouseNow 97 = .ok (.aload_n 3, 1) := by decide +kernel
theorem dX5_ofHouseNow_98 : decode cX5_ofHouseNow 98 = .ok (.iconst 2, 1) := by decide +kernel
theorem dX5_ofHouseNow_99 : decode cX5_ofHouseNow 99 = .ok (.iaload, 1) := by decide +kernel
theorem dX5_ofHouseNow_100 : decode cX5_ofHouseNow 100 = .ok (.iastore, 1) := by decide +kernel
theorem dX5_ofHouseNow_101 : decode cX5_ofHouseNow 101 = .ok (.astore 5, 2) := by decide +kernel
theorem dX5_ofHouseNow_103 : decode cX5_ofHouseNow 103 = .ok (.aload 5, 2) := by decide +kernel
theorem dX5_ofHouseNow_105 : decode cX5_ofHouseNow 105 = .ok (.iload_n 2, 1) := by decide +kernel
theorem dX5_ofHouseNow_106 : decode cX5_ofHouseNow 106 = .ok (.iaload, 1) := by decide +kernel
theorem dX5_ofHouseNow_107 : decode cX5_ofHouseNow 107 = .ok (.ireturn, 1) := by decide +kernel
set_option maxRecDepth 20000 in
theorem ggX5_ofHouse_X5_isHouse : GoodIn wsX5_ofHouse wsX5_isHouse := goodIn_r _ [6, 7, 8, 9, 10, 11, 12, 13, 14, 15, 5, 16, 86, 87, 88, 89, 90, 91, 92, 93, 94, 95, 96, 97, 98, 99, 100, 101, 102, 103, 104, 105, 106, 107, 108] (by decide +kernel) (by decide +kernel)
set_option maxRecDepth 20000 in
theorem gX5_ofHouse_X5_isHouse : GoodIn wsX5_ofHouse (wsV RX5 94 RX5 yX5_isHouse wsX5_isHouse) := goodIn_app (goodIn_of _ (by decide +kernel)) ggX5_ofHouse_X5_isHouse
set_option maxRecDepth 20000 in
theorem ggX5_ofHouse_X5_refuse : GoodIn wsX5_ofHouse wsX5_refuse := goodIn_r _ [20, 1, 86, 87, 88, 89, 90, 91, 92, 93, 94, 95, 96, 97, 98, 99, 100, 101, 102, 103, 104, 105] (by decide +kernel) (by decide +kernel)
set_option maxRecDepth 20000 in
theorem gX5_ofHouse_X5_refuse : GoodIn wsX5_ofHouse (wsV RX5 86 RX5 yX5_refuse wsX5_refuse) := goodIn_app (goodIn_of _ (by decide +kernel)) ggX5_ofHouse_X5_refuse
set_option maxRecDepth 20000 in
theorem ggX5_ofHouse_X5_is : GoodIn wsX5_ofHouse wsX5_is := goodIn_r _ [16] (by decide +kernel) (by decide +kernel)
set_option maxRecDepth 20000 in
theorem gX5_ofHouse_X5_is : GoodIn wsX5_ofHouse (va_wsS RX5 57 yX5_is wsX5_is) := goodIn_app (goodIn_of _ (by decide +kernel)) ggX5_ofHouse_X5_is
set_option maxRecDepth 20000 in
theorem ggX5_ofHouse_X5_ofHouseNow : GoodIn wsX5_ofHouse wsX5_ofHouseNow := goodIn_r _ [24, 7, 25, 26, 27, 28, 29, 30, 11, 31, 13, 32, 33, 34, 35, 36, 37, 38, 39, 40, 41, 42, 43, 44, 45, 46, 47, 48, 49, 50, 51, 52, 53, 54, 55, 56, 57, 58, 59, 60, 61, 62, 63, 64, 65, 66, 67, 68, 69, 70, 71, 72, 73, 74, 75, 76, 77, 78, 79, 5, 80, 81, 82, 83, 84, 85, 8, 9, 10, 12, 86, 87, 88, 89, 90, 91, 92, 93, 94, 95, 96, 97, 98, 99, 100, 101, 102, 103, 104, 105, 106, 107, 108, 109, 110, 111, 112] (by decide +kernel) (by decide +kernel)
set_option maxRecDepth 20000 in
theorem gX5_ofHouse_X5_ofHouseNow : GoodIn wsX5_ofHouse (wsV RX5 250 RX5 yX5_ofHouseNow wsX5_ofHouseNow) := goodIn_app (goodIn_of _ (by decide +kernel)) ggX5_ofHouse_X5_ofHouseNow
theorem dX5_ofHouse_0 : decode cX5_ofHouse 0 = .ok (.aload_n 0, 1) := by decide +kernel
theorem dX5_ofHouse_1 : decode cX5_ofHouse 1 = .ok (.iconst 0, 1) := by decide +kernel
theorem dX5_ofHouse_2 : decode cX5_ofHouse 2 = .ok (.putfield 50, 3) := by decide +kernel
theorem dX5_ofHouse_5 : decode cX5_ofHouse 5 = .ok (.aload_n 0, 1) := by decide +kernel
theorem dX5_ofHouse_6 : decode cX5_ofHouse 6 = .ok (.iload_n 1, 1) := by decide +kernel
theorem dX5_ofHouse_7 : decode cX5_ofHouse 7 = .ok (.invokevirtual 94, 3) := by decide +kernel
theorem dX5_ofHouse_10 : decode cX5_ofHouse 10 = .ok (.ifCond .ne 9, 3) := by decide +kernel
theorem dX5_ofHouse_13 : decode cX5_ofHouse 13 = .ok (.aload_n 0, 1) := by decide +kernel
theorem dX5_ofHouse_14 : decode cX5_ofHouse 14 = .ok (.iconst 1, 1) := by decide +kernel
theorem dX5_ofHouse_15 : decode cX5_ofHouse 15 = .ok (.invokevirtual 86, 3) := by decide +kernel
theorem dX5_ofHouse_18 : decode cX5_ofHouse 18 = .ok (.ireturn, 1) := by decide +kernel
theorem dX5_ofHouse_19 : decode cX5_ofHouse 19 = .ok (.iload_n 2, 1) := by decide +kernel
theorem dX5_ofHouse_20 : decode cX5_ofHouse 20 = .ok (.iconst 0, 1) := by decide +kernel
theorem dX5_ofHouse_21 : decode cX5_ofHouse 21 = .ok (.iconst 4, 1) := by decide +kernel
theorem dX5_ofHouse_22 : decode cX5_ofHouse 22 = .ok (.invokestatic 57, 3) := by decide +kernel
theorem dX5_ofHouse_25 : decode cX5_ofHouse 25 = .ok (.ifCond .eq 12, 3) := by decide +kernel
theorem dX5_ofHouse_28 : decode cX5_ofHouse 28 = .ok (.aload_n 0, 1) := by decide +kernel
theorem dX5_ofHouse_29 : decode cX5_ofHouse 29 = .ok (.iload_n 1, 1) := by decide +kernel
theorem dX5_ofHouse_30 : decode cX5_ofHouse 30 = .ok (.iload_n 2, 1) := by decide +kernel
theorem dX5_ofHouse_31 : decode cX5_ofHouse 31 = .ok (.invokevirtual 250, 3) := by decide +kernel
theorem dX5_ofHouse_34 : decode cX5_ofHouse 34 = .ok (.goto 8, 3) := by decide +kernel
theorem dX5_ofHouse_37 : decode cX5_ofHouse 37 = .ok (.aload_n 0, 1) := by decide +kernel
theorem dX5_ofHouse_38 : decode cX5_ofHouse 38 = .ok (.iconst 2, 1) := by decide +kernel
theorem dX5_ofHouse_39 : decode cX5_ofHouse 39 = .ok (.invokevirtual 86, 3) := by decide +kernel
theorem dX5_ofHouse_42 : decode cX5_ofHouse 42 = .ok (.ireturn, 1) := by decide +kernel
set_option maxRecDepth 20000 in
theorem ggX5_ofBookNow_Jx4a65c_get_915e3 : GoodIn wsX5_ofBookNow wsJx4a65c_get_915e3 := goodIn_r _ [10, 11, 12, 13, 14, 15, 16, 17, 18, 19, 20, 21, 22, 9, 23, 24, 98, 99, 100] (by decide +kernel) (by decide +kernel)
set_option maxRecDepth 20000 in
theorem gX5_ofBookNow_Jx4a65c_get_915e3 : GoodIn wsX5_ofBookNow (wsV RX5 107 RJx4a65c yJx4a65c_get_915e3 wsJx4a65c_get_915e3) := goodIn_app (goodIn_of _ (by decide +kernel)) ggX5_ofBookNow_Jx4a65c_get_915e3
set_option maxRecDepth 20000 in
theorem ggX5_ofBookNow_X5_isEligible : GoodIn wsX5_ofBookNow wsX5_isEligible := goodIn_r _ [29, 1, 2, 30, 31, 6, 7, 8, 9, 10, 11, 12, 13, 14, 15, 16, 17, 18, 19, 20, 21, 22, 23, 24, 32, 33, 28, 34, 78, 79, 80, 81, 82, 83, 84, 85, 86, 87, 88, 89, 90, 91, 92, 93, 94, 95, 96, 97, 98, 99, 100] (by decide +kernel) (by decide +kernel)
set_option maxRecDepth 20000 in
theorem gX5_ofBookNow_X5_isEligible : GoodIn wsX5_ofBookNow (wsV RX5 144 RX5 yX5_isEligible wsX5_isEligible) := goodIn_app (goodIn_of _ (by decide +kernel)) ggX5_ofBookNow_X5_isEligible
set_option maxRecDepth 20000 in
theorem ggX5_ofBookNow_X5_isEntered : GoodIn wsX5_ofBookNow wsX5_isEntered := goodIn_r _ [38, 1, 2, 30, 6, 7, 8, 9, 10, 11, 12, 13, 14, 15, 16, 17, 18, 19, 20, 21, 22, 23, 24, 78, 79, 80, 81, 82, 83, 84, 85, 86, 87, 88, 89, 90, 91, 92, 93, 94, 95, 96, 97, 98, 99, 100] (by decide +kernel) (by decide +kernel)
set_option maxRecDepth 20000 in
theorem gX5_ofBookNow_X5_isEntered : GoodIn wsX5_ofBookNow (wsV RX5 131 RX5 yX5_isEntered wsX5_isEntered) := goodIn_app (goodIn_of _ (by decide +kernel)) ggX5_ofBookNow_X5_isEntered
set_option maxRecDepth 20000 in
theorem ggX5_ofBookNow_X5_score : GoodIn wsX5_ofBookNow wsX5_score := goodIn_r _ [42, 43, 44, 45, 46, 47, 9, 48, 11, 49, 50, 51, 28, 52, 53, 54, 55, 56, 2, 1, 6, 7, 8, 10, 12, 13, 14, 15, 16, 17, 18, 19, 20, 21, 22, 23, 24, 57, 58, 59, 60, 61, 62, 63, 64, 65, 66, 67, 68, 78, 79, 80, 81, 82, 83, 84, 85, 86, 87, 88, 89, 90, 91, 92, 93, 94, 95, 96, 97, 98, 99, 100] (by decide +kernel) (by decide +kernel)
set_option maxRecDepth 20000 in
theorem gX5_ofBookNow_X5_score : GoodIn wsX5_ofBookNow (wsV RX5 210 RX5 yX5_score wsX5_score) := goodIn_app (goodIn_of _ (by decide +kernel)) ggX5_ofBookNow_X5_score
set_option maxRecDepth 20000 in
theorem ggX5_ofBookNow_X5_marksOf : GoodIn wsX5_ofBookNow wsX5_marksOf := goodIn_r _ [64, 43, 45, 46, 47, 9, 48, 11, 49, 50, 51, 28, 52, 44, 53, 54, 55, 56, 2, 1, 6, 7, 8, 10, 12, 13, 14, 15, 16, 17, 18, 19, 20, 21, 22, 23, 24, 78, 79, 80, 81, 82, 83, 84, 85, 86, 87, 88, 89, 90, 91, 92, 93, 94, 95, 96, 97, 98, 99, 100] (by decide +kernel) (by decide +kernel)
set_option maxRecDepth 20000 in
theorem gX5_ofBookNow_X5_marksOf : GoodIn wsX5_ofBookNow (wsV RX5 198 RX5 yX5_marksOf wsX5_marksOf) := goodIn_app (goodIn_of _ (by decide +kernel)) ggX5_ofBookNow_X5_marksOf
set_option maxRecDepth 20000 in
theorem ggX5_ofBookNow_X5_pointsOf : GoodIn wsX5_ofBookNow wsX5_pointsOf := goodIn_r _ [72, 43, 73, 45, 46, 47, 9, 48, 11, 53, 54, 55, 28, 56, 2, 1, 6, 7, 8, 10, 12, 13, 14, 15, 16, 17, 18, 19, 20, 21, 22, 23, 24, 74, 75, 76, 77, 78, 79, 80, 81, 82, 83, 84, 85, 86, 87, 88, 89, 90, 91, 92, 93, 94, 95, 96, 97, 98, 99, 100] (by decide +kernel) (by decide +kernel)
set_option maxRecDepth 20000 in
theorem gX5_ofBookNow_X5_pointsOf : GoodIn wsX5_ofBookNow (wsV RX5 219 RX5 yX5_pointsOf wsX5_pointsOf) := goodIn_app (goodIn_of _ (by decide +kernel)) ggX5_ofBookNow_X5_pointsOf
theorem dX5_ofBookNow_0 : decode cX5_ofBookNow 0 = .ok (.aload_n 0, 1) := by decide +kernel
theorem dX5_ofBookNow_1 : decode cX5_ofBookNow 1 = .ok (.getfield 16, 3) := by decide +kernel
