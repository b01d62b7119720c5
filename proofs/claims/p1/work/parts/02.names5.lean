set_option maxRecDepth 20000 in
theorem ggX5_pass_X5_is : GoodIn wsX5_pass wsX5_is := goodIn_r _ [9] (by decide +kernel) (by decide +kernel)
set_option maxRecDepth 20000 in
theorem gX5_pass_X5_is : GoodIn wsX5_pass (va_wsS RX5 57 yX5_is wsX5_is) := goodIn_app (goodIn_of _ (by decide +kernel)) ggX5_pass_X5_is
set_option maxRecDepth 20000 in
theorem ggX5_pass_X5_refuse : GoodIn wsX5_pass wsX5_refuse := goodIn_r _ [13, 1, 123, 124, 125, 126, 127, 128, 129, 130, 131, 132, 133, 134, 135, 136, 137, 138, 139, 140, 141, 142] (by decide +kernel) (by decide +kernel)
set_option maxRecDepth 20000 in
theorem gX5_pass_X5_refuse : GoodIn wsX5_pass (wsV RX5 86 RX5 yX5_refuse wsX5_refuse) := goodIn_app (goodIn_of _ (by decide +kernel)) ggX5_pass_X5_refuse
set_option maxRecDepth 20000 in
theorem ggX5_pass_Jx4a65c_size_8abf5 : GoodIn wsX5_pass wsJx4a65c_size_8abf5 := goodIn_r _ [18, 19, 143, 144, 145] (by decide +kernel) (by decide +kernel)
set_option maxRecDepth 20000 in
theorem gX5_pass_Jx4a65c_size_8abf5 : GoodIn wsX5_pass (wsV RX5 53 RJx4a65c yJx4a65c_size_8abf5 wsJx4a65c_size_8abf5) := goodIn_app (goodIn_of _ (by decide +kernel)) ggX5_pass_Jx4a65c_size_8abf5
theorem dX5_pass_0 : decode cX5_pass 0 = .ok (.aload_n 0, 1) := by decide +kernel
theorem dX5_pass_1 : decode cX5_pass 1 = .ok (.iconst 0, 1) := by decide +kernel
theorem dX5_pass_2 : decode cX5_pass 2 = .ok (.putfield 50, 3) := by decide +kernel
theorem dX5_pass_5 : decode cX5_pass 5 = .ok (.iload_n 1, 1) := by decide +kernel
theorem dX5_pass_6 : decode cX5_pass 6 = .ok (.iconst 1, 1) := by decide +kernel
theorem dX5_pass_7 : decode cX5_pass 7 = .ok (.bipush 60, 2) := by decide +kernel
theorem dX5_pass_9 : decode cX5_pass 9 = .ok (.invokestatic 57, 3) := by decide +kernel
theorem dX5_pass_12 : decode cX5_pass 12 = .ok (.ifCond .ne 9, 3) := by decide +kernel
theorem dX5_pass_15 : decode cX5_pass 15 = .ok (.aload_n 0, 1) := by decide +kernel
theorem dX5_pass_16 : decode cX5_pass 16 = .ok (.iconst 1, 1) := by decide +kernel
theorem dX5_pass_17 : decode cX5_pass 17 = .ok (.invokevirtual 86, 3) := by decide +kernel
theorem dX5_pass_20 : decode cX5_pass 20 = .ok (.ireturn, 1) := by decide +kernel
theorem dX5_pass_21 : decode cX5_pass 21 = .ok (.aload_n 0, 1) := by decide +kernel
theorem dX5_pass_22 : decode cX5_pass 22 = .ok (.getfield 182, 3) := by decide +kernel
theorem dX5_pass_25 : decode cX5_pass 25 = .ok (.iload_n 1, 1) := by decide +kernel
theorem dX5_pass_26 : decode cX5_pass 26 = .ok (.iadd, 1) := by decide +kernel
theorem dX5_pass_27 : decode cX5_pass 27 = .ok (.sipush 9999, 3) := by decide +kernel
theorem dX5_pass_30 : decode cX5_pass 30 = .ok (.if_icmp .le 9, 3) := by decide +kernel
theorem dX5_pass_39 : decode cX5_pass 39 = .ok (.iconst 0, 1) := by decide +kernel
theorem dX5_pass_40 : decode cX5_pass 40 = .ok (.istore_n 2, 1) := by decide +kernel
theorem dX5_pass_41 : decode cX5_pass 41 = .ok (.iconst 0, 1) := by decide +kernel
theorem dX5_pass_42 : decode cX5_pass 42 = .ok (.istore_n 3, 1) := by decide +kernel
theorem dX5_pass_43 : decode cX5_pass 43 = .ok (.iload_n 3, 1) := by decide +kernel
theorem dX5_pass_44 : decode cX5_pass 44 = .ok (.iload_n 1, 1) := by decide +kernel
theorem dX5_pass_45 : decode cX5_pass 45 = .ok (.if_icmp .ge 84, 3) := by decide +kernel
theorem dX5_pass_48 : decode cX5_pass 48 = .ok (.aload_n 0, 1) := by decide +kernel
theorem dX5_pass_49 : decode cX5_pass 49 = .ok (.dup, 1) := by decide +kernel
theorem dX5_pass_50 : decode cX5_pass 50 = .ok (.getfield 182, 3) := by decide +kernel
theorem dX5_pass_53 : decode cX5_pass 53 = .ok (.iconst 1, 1) := by decide +kernel
theorem dX5_pass_54 : decode cX5_pass 54 = .ok (.iadd, 1) := by decide +kernel
theorem dX5_pass_55 : decode cX5_pass 55 = .ok (.putfield 182, 3) := by decide +kernel
theorem dX5_pass_58 : decode cX5_pass 58 = .ok (.iconst 0, 1) := by decide +kernel
theorem dX5_pass_59 : decode cX5_pass 59 = .ok (.istore 4, 2) := by decide +kernel
theorem dX5_pass_61 : decode cX5_pass 61 = .ok (.iload 4, 2) := by decide +kernel
theorem dX5_pass_63 : decode cX5_pass 63 = .ok (.aload_n 0, 1) := by decide +kernel
theorem dX5_pass_64 : decode cX5_pass 64 = .ok (.getfield 19, 3) := by decide +kernel
theorem dX5_pass_67 : decode cX5_pass 67 = .ok (.invokevirtual 53, 3) := by decide +kernel
theorem dX5_pass_70 : decode cX5_pass 70 = .ok (.if_icmp .ge 26, 3) := by decide +kernel
theorem dX5_pass_96 : decode cX5_pass 96 = .ok (.iconst 0, 1) := by decide +kernel
theorem dX5_pass_97 : decode cX5_pass 97 = .ok (.istore 4, 2) := by decide +kernel
theorem dX5_pass_99 : decode cX5_pass 99 = .ok (.iload 4, 2) := by decide +kernel
theorem dX5_pass_101 : decode cX5_pass 101 = .ok (.aload_n 0, 1) := by decide +kernel
theorem dX5_pass_102 : decode cX5_pass 102 = .ok (.getfield 16, 3) := by decide +kernel
theorem dX5_pass_105 : decode cX5_pass 105 = .ok (.invokevirtual 53, 3) := by decide +kernel
theorem dX5_pass_108 : decode cX5_pass 108 = .ok (.if_icmp .ge 15, 3) := by decide +kernel
theorem dX5_pass_123 : decode cX5_pass 123 = .ok (.iinc 3 1, 3) := by decide +kernel
theorem dX5_pass_126 : decode cX5_pass 126 = .ok (.goto (-83), 3) := by decide +kernel
theorem dX5_pass_129 : decode cX5_pass 129 = .ok (.iload_n 2, 1) := by decide +kernel
theorem dX5_pass_130 : decode cX5_pass 130 = .ok (.ireturn, 1) := by decide +kernel
set_option maxRecDepth 20000 in
theorem ggX5_longList_X5_is : GoodIn wsX5_longList wsX5_is := goodIn_r _ [10] (by decide +kernel) (by decide +kernel)
set_option maxRecDepth 20000 in
theorem gX5_longList_X5_is : GoodIn wsX5_longList (va_wsS RX5 57 yX5_is wsX5_is) := goodIn_app (goodIn_of _ (by decide +kernel)) ggX5_longList_X5_is
set_option maxRecDepth 20000 in
theorem ggX5_longList_X5_refuse : GoodIn wsX5_longList wsX5_refuse := goodIn_r _ [14, 1, 127, 128, 129, 130, 131, 132, 133, 134, 135, 136, 137, 138, 139, 140, 141, 142, 143, 144, 145, 146] (by decide +kernel) (by decide +kernel)
set_option maxRecDepth 20000 in
theorem gX5_longList_X5_refuse : GoodIn wsX5_longList (wsV RX5 86 RX5 yX5_refuse wsX5_refuse) := goodIn_app (goodIn_of _ (by decide +kernel)) ggX5_longList_X5_refuse
set_option maxRecDepth 20000 in
theorem ggX5_longList_Jx4a65c_size_8abf5 : GoodIn wsX5_longList wsJx4a65c_size_8abf5 := goodIn_r _ [19, 20, 147, 148, 149] (by decide +kernel) (by decide +kernel)
set_option maxRecDepth 20000 in
theorem gX5_longList_Jx4a65c_size_8abf5 : GoodIn wsX5_longList (wsV RX5 53 RJx4a65c yJx4a65c_size_8abf5 wsJx4a65c_size_8abf5) := goodIn_app (goodIn_of _ (by decide +kernel)) ggX5_longList_Jx4a65c_size_8abf5
theorem dX5_longList_0 : decode cX5_longList 0 = .ok (.aload_n 0, 1) := by decide +kernel
theorem dX5_longList_1 : decode cX5_longList 1 = .ok (.iconst 0, 1) := by decide +kernel
theorem dX5_longList_2 : decode cX5_longList 2 = .ok (.putfield 50, 3) := by decide +kernel
theorem dX5_longList_5 : decode cX5_longList 5 = .ok (.iload_n 1, 1) := by decide +kernel
theorem dX5_longList_6 : decode cX5_longList 6 = .ok (.iconst 3, 1) := by decide +kernel
theorem dX5_longList_7 : decode cX5_longList 7 = .ok (.bipush 8, 2) := by decide +kernel
theorem dX5_longList_9 : decode cX5_longList 9 = .ok (.invokestatic 57, 3) := by decide +kernel
theorem dX5_longList_12 : decode cX5_longList 12 = .ok (.ifCond .ne 9, 3) := by decide +kernel
theorem dX5_longList_15 : decode cX5_longList 15 = .ok (.aload_n 0, 1) := by decide +kernel
theorem dX5_longList_16 : decode cX5_longList 16 = .ok (.iconst 1, 1) := by decide +kernel
theorem dX5_longList_17 : decode cX5_longList 17 = .ok (.invokevirtual 86, 3) := by decide +kernel
theorem dX5_longList_20 : decode cX5_longList 20 = .ok (.ireturn, 1) := by decide +kernel
theorem dX5_longList_21 : decode cX5_longList 21 = .ok (.aload_n 0, 1) := by decide +kernel
theorem dX5_longList_22 : decode cX5_longList 22 = .ok (.getfield 101, 3) := by decide +kernel
theorem dX5_longList_25 : decode cX5_longList 25 = .ok (.iconst 1, 1) := by decide +kernel
theorem dX5_longList_26 : decode cX5_longList 26 = .ok (.if_icmp .ne 7, 3) := by decide +kernel
theorem dX5_longList_33 : decode cX5_longList 33 = .ok (.iconst 0, 1) := by decide +kernel
theorem dX5_longList_34 : decode cX5_longList 34 = .ok (.istore_n 2, 1) := by decide +kernel
theorem dX5_longList_35 : decode cX5_longList 35 = .ok (.iconst 0, 1) := by decide +kernel
theorem dX5_longList_36 : decode cX5_longList 36 = .ok (.istore_n 3, 1) := by decide +kernel
theorem dX5_longList_37 : decode cX5_longList 37 = .ok (.iload_n 3, 1) := by decide +kernel
theorem dX5_longList_38 : decode cX5_longList 38 = .ok (.aload_n 0, 1) := by decide +kernel
theorem dX5_longList_39 : decode cX5_longList 39 = .ok (.getfield 19, 3) := by decide +kernel
theorem dX5_longList_42 : decode cX5_longList 42 = .ok (.invokevirtual 53, 3) := by decide +kernel
theorem dX5_longList_45 : decode cX5_longList 45 = .ok (.if_icmp .ge 25, 3) := by decide +kernel
theorem dX5_longList_70 : decode cX5_longList 70 = .ok (.iload_n 2, 1) := by decide +kernel
theorem dX5_longList_71 : decode cX5_longList 71 = .ok (.ifCond .ne 9, 3) := by decide +kernel
theorem dX5_longList_74 : decode cX5_longList 74 = .ok (.aload_n 0, 1) := by decide +kernel
theorem dX5_longList_75 : decode cX5_longList 75 = .ok (.iconst 2, 1) := by decide +kernel
theorem dX5_longList_76 : decode cX5_longList 76 = .ok (.invokevirtual 86, 3) := by decide +kernel
theorem dX5_longList_79 : decode cX5_longList 79 = .ok (.ireturn, 1) := by decide +kernel
set_option maxRecDepth 20000 in
theorem ggX5_points_X5_isJudge : GoodIn wsX5_points wsX5_isJudge := goodIn_r _ [9, 10, 11, 12, 13, 14, 15, 16, 17, 18, 8, 19, 55, 56, 57, 58, 59, 60, 61, 62, 63, 64, 65, 66, 67, 68, 69, 70, 71, 72, 73, 74, 75, 76, 77] (by decide +kernel) (by decide +kernel)
set_option maxRecDepth 20000 in
theorem gX5_points_X5_isJudge : GoodIn wsX5_points (wsV RX5 104 RX5 yX5_isJudge wsX5_isJudge) := goodIn_app (goodIn_of _ (by decide +kernel)) ggX5_points_X5_isJudge
set_option maxRecDepth 20000 in
theorem ggX5_points_X5_refuse : GoodIn wsX5_points wsX5_refuse := goodIn_r _ [28, 1, 55, 56, 57, 58, 59, 60, 61, 62, 63, 64, 65, 66, 67, 68, 69, 70, 71, 72, 73, 74] (by decide +kernel) (by decide +kernel)
set_option maxRecDepth 20000 in
theorem gX5_points_X5_refuse : GoodIn wsX5_points (wsV RX5 86 RX5 yX5_refuse wsX5_refuse) := goodIn_app (goodIn_of _ (by decide +kernel)) ggX5_points_X5_refuse
theorem dX5_points_0 : decode cX5_points 0 = .ok (.aload_n 0, 1) := by decide +kernel
theorem dX5_points_1 : decode cX5_points 1 = .ok (.iconst 0, 1) := by decide +kernel
theorem dX5_points_2 : decode cX5_points 2 = .ok (.putfield 50, 3) := by decide +kernel
theorem dX5_points_5 : decode cX5_points 5 = .ok (.aload_n 0, 1) := by decide +kernel
theorem dX5_points_6 : decode cX5_points 6 = .ok (.iload_n 1, 1) := by decide +kernel
theorem dX5_points_7 : decode cX5_points 7 = .ok (.invokevirtual 104, 3) := by decide +kernel
theorem dX5_points_10 : decode cX5_points 10 = .ok (.ifCond .eq 30, 3) := by decide +kernel
theorem dX5_points_40 : decode cX5_points 40 = .ok (.aload_n 0, 1) := by decide +kernel
theorem dX5_points_41 : decode cX5_points 41 = .ok (.iconst 1, 1) := by decide +kernel
theorem dX5_points_42 : decode cX5_points 42 = .ok (.invokevirtual 86, 3) := by decide +kernel
theorem dX5_points_45 : decode cX5_points 45 = .ok (.ireturn, 1) := by decide +kernel
set_option maxRecDepth 20000 in
theorem ggX5_shortList_X5_is : GoodIn wsX5_shortList wsX5_is := goodIn_r _ [9] (by decide +kernel) (by decide +kernel)
set_option maxRecDepth 20000 in
theorem gX5_shortList_X5_is : GoodIn wsX5_shortList (va_wsS RX5 57 yX5_is wsX5_is) := goodIn_app (goodIn_of _ (by decide +kernel)) ggX5_shortList_X5_is
set_option maxRecDepth 20000 in
theorem ggX5_shortList_X5_refuse : GoodIn wsX5_shortList wsX5_refuse := goodIn_r _ [13, 1, 83, 84, 85, 86, 87, 88, 89, 90, 91, 92, 93, 94, 95, 96, 97, 98, 99, 100, 101, 102] (by decide +kernel) (by decide +kernel)
set_option maxRecDepth 20000 in
theorem gX5_shortList_X5_refuse : GoodIn wsX5_shortList (wsV RX5 86 RX5 yX5_refuse wsX5_refuse) := goodIn_app (goodIn_of _ (by decide +kernel)) ggX5_shortList_X5_refuse
theorem dX5_shortList_0 : decode cX5_shortList 0 = .ok (.aload_n 0, 1) := by decide +kernel
theorem dX5_shortList_1 : decode cX5_shortList 1 = .ok (.iconst 0, 1) := by decide +kernel
theorem dX5_shortList_2 : decode cX5_shortList 2 = .ok (.putfield 50, 3) := by decide +kernel
theorem dX5_shortList_5 : decode cX5_shortList 5 = .ok (.iload_n 1, 1) := by decide +kernel
theorem dX5_shortList_6 : decode cX5_shortList 6 = .ok (.iconst 2, 1) := by decide +kernel
theorem dX5_shortList_7 : decode cX5_shortList 7 = .ok (.iconst 5, 1) := by decide +kernel
theorem dX5_shortList_8 : decode cX5_shortList 8 = .ok (.invokestatic 57, 3) := by decide +kernel
theorem dX5_shortList_11 : decode cX5_shortList 11 = .ok (.ifCond .ne 9, 3) := by decide +kernel
theorem dX5_shortList_14 : decode cX5_shortList 14 = .ok (.aload_n 0, 1) := by decide +kernel
theorem dX5_shortList_15 : decode cX5_shortList 15 = .ok (.iconst 1, 1) := by decide +kernel
theorem dX5_shortList_16 : decode cX5_shortList 16 = .ok (.invokevirtual 86, 3) := by decide +kernel
theorem dX5_shortList_19 : decode cX5_shortList 19 = .ok (.ireturn, 1) := by decide +kernel
theorem dX5_shortList_20 : decode cX5_shortList 20 = .ok (.aload_n 0, 1) := by decide +kernel
theorem dX5_shortList_21 : decode cX5_shortList 21 = .ok (.getfield 101, 3) := by decide +kernel
theorem dX5_shortList_24 : decode cX5_shortList 24 = .ok (.iconst 2, 1) := by decide +kernel
theorem dX5_shortList_25 : decode cX5_shortList 25 = .ok (.if_icmp .eq 9, 3) := by decide +kernel
theorem dX5_shortList_28 : decode cX5_shortList 28 = .ok (.aload_n 0, 1) := by decide +kernel
theorem dX5_shortList_29 : decode cX5_shortList 29 = .ok (.iconst 2, 1) := by decide +kernel
theorem dX5_shortList_30 : decode cX5_shortList 30 = .ok (.invokevirtual 86, 3) := by decide +kernel
theorem dX5_shortList_33 : decode cX5_shortList 33 = .ok (.ireturn, 1) := by decide +kernel
set_option maxRecDepth 20000 in
theorem ggX5_vote_X5_isJudge : GoodIn wsX5_vote wsX5_isJudge := goodIn_r _ [9, 3, 10, 11, 12, 13, 14, 15, 16, 17, 8, 18, 84, 85, 86, 87, 88, 89, 90, 91, 92, 93, 94, 95, 96, 97, 98, 99, 100, 101, 102, 103, 104, 105, 106] (by decide +kernel) (by decide +kernel)
set_option maxRecDepth 20000 in
theorem gX5_vote_X5_isJudge : GoodIn wsX5_vote (wsV RX5 104 RX5 yX5_isJudge wsX5_isJudge) := goodIn_app (goodIn_of _ (by decide +kernel)) ggX5_vote_X5_isJudge
set_option maxRecDepth 20000 in
theorem ggX5_vote_X5_refuse : GoodIn wsX5_vote wsX5_refuse := goodIn_r _ [22, 1, 84, 85, 86, 87, 88, 89, 90, 91, 92, 93, 94, 95, 96, 97, 98, 99, 100, 101, 102, 103] (by decide +kernel) (by decide +kernel)
set_option maxRecDepth 20000 in
theorem gX5_vote_X5_refuse : GoodIn wsX5_vote (wsV RX5 86 RX5 yX5_refuse wsX5_refuse) := goodIn_app (goodIn_of _ (by decide +kernel)) ggX5_vote_X5_refuse
theorem dX5_vote_0 : decode cX5_vote 0 = .ok (.aload_n 0, 1) := by decide +kernel
theorem dX5_vote_1 : decode cX5_vote 1 = .ok (.iconst 0, 1) := by decide +kernel
theorem dX5_vote_2 : decode cX5_vote 2 = .ok (.putfield 50, 3) := by decide +kernel
theorem dX5_vote_5 : decode cX5_vote 5 = .ok (.aload_n 0, 1) := by decide +kernel
theorem dX5_vote_6 : decode cX5_vote 6 = .ok (.iload_n 1, 1) := by decide +kernel
theorem dX5_vote_7 : decode cX5_vote 7 = .ok (.invokevirtual 104, 3) := by decide +kernel
theorem dX5_vote_10 : decode cX5_vote 10 = .ok (.ifCond .ne 9, 3) := by decide +kernel
theorem dX5_vote_13 : decode cX5_vote 13 = .ok (.aload_n 0, 1) := by decide +kernel
theorem dX5_vote_14 : decode cX5_vote 14 = .ok (.iconst 1, 1) := by decide +kernel
theorem dX5_vote_15 : decode cX5_vote 15 = .ok (.invokevirtual 86, 3) := by decide +kernel
theorem dX5_vote_18 : decode cX5_vote 18 = .ok (.ireturn, 1) := by decide +kernel
set_option maxRecDepth 20000 in
theorem ggX5_end_X5_refuse : GoodIn wsX5_end wsX5_refuse := goodIn_r _ [8, 1, 99, 100, 101, 102, 103, 104, 105, 106, 107, 108, 109, 110, 111, 112, 113, 114, 115, 116, 117, 118] (by decide +kernel) (by decide +kernel)
set_option maxRecDepth 20000 in
theorem gX5_end_X5_refuse : GoodIn wsX5_end (wsV RX5 86 RX5 yX5_refuse wsX5_refuse) := goodIn_app (goodIn_of _ (by decide +kernel)) ggX5_end_X5_refuse
theorem dX5_end_0 : decode cX5_end 0 = .ok (.aload_n 0, 1) := by decide +kernel
theorem dX5_end_1 : decode cX5_end 1 = .ok (.iconst 0, 1) := by decide +kernel
theorem dX5_end_2 : decode cX5_end 2 = .ok (.putfield 50, 3) := by decide +kernel
theorem dX5_end_5 : decode cX5_end 5 = .ok (.aload_n 0, 1) := by decide +kernel
theorem dX5_end_6 : decode cX5_end 6 = .ok (.getfield 101, 3) := by decide +kernel
theorem dX5_end_9 : decode cX5_end 9 = .ok (.iconst 3, 1) := by decide +kernel
theorem dX5_end_10 : decode cX5_end 10 = .ok (.if_icmp .eq 9, 3) := by decide +kernel
theorem dX5_end_13 : decode cX5_end 13 = .ok (.aload_n 0, 1) := by decide +kernel
theorem dX5_end_14 : decode cX5_end 14 = .ok (.iconst 1, 1) := by decide +kernel
theorem dX5_end_15 : decode cX5_end 15 = .ok (.invokevirtual 86, 3) := by decide +kernel
theorem dX5_end_18 : decode cX5_end 18 = .ok (.ireturn, 1) := by decide +kernel
set_option maxRecDepth 20000 in
theorem ggX5_strip_X5_refuse : GoodIn wsX5_strip wsX5_refuse := goodIn_r _ [10, 1, 100, 101, 102, 103, 104, 105, 106, 107, 108, 109, 110, 111, 112, 113, 114, 115, 116, 117, 118, 119] (by decide +kernel) (by decide +kernel)
set_option maxRecDepth 20000 in
theorem gX5_strip_X5_refuse : GoodIn wsX5_strip (wsV RX5 86 RX5 yX5_refuse wsX5_refuse) := goodIn_app (goodIn_of _ (by decide +kernel)) ggX5_strip_X5_refuse
theorem dX5_strip_0 : decode cX5_strip 0 = .ok (.aload_n 0, 1) := by decide +kernel
theorem dX5_strip_1 : decode cX5_strip 1 = .ok (.iconst 0, 1) := by decide +kernel
theorem dX5_strip_2 : decode cX5_strip 2 = .ok (.putfield 50, 3) := by decide +kernel
theorem dX5_strip_5 : decode cX5_strip 5 = .ok (.aload_n 0, 1) := by decide +kernel
theorem dX5_strip_6 : decode cX5_strip 6 = .ok (.getfield 101, 3) := by decide +kernel
theorem dX5_strip_9 : decode cX5_strip 9 = .ok (.iconst 4, 1) := by decide +kernel
theorem dX5_strip_10 : decode cX5_strip 10 = .ok (.if_icmp .ne 11, 3) := by decide +kernel
theorem dX5_strip_21 : decode cX5_strip 21 = .ok (.aload_n 0, 1) := by decide +kernel
theorem dX5_strip_22 : decode cX5_strip 22 = .ok (.iconst 1, 1) := by decide +kernel
theorem dX5_strip_23 : decode cX5_strip 23 = .ok (.invokevirtual 86, 3) := by decide +kernel
theorem dX5_strip_26 : decode cX5_strip 26 = .ok (.ireturn, 1) := by decide +kernel
set_option maxRecDepth 20000 in
theorem ggX5_next_X5_refuse : GoodIn wsX5_next wsX5_refuse := goodIn_r _ [18, 1, 72, 73, 74, 75, 76, 77, 78, 79, 80, 81, 82, 83, 84, 85, 86, 87, 88, 89, 90, 91] (by decide +kernel) (by decide +kernel)
set_option maxRecDepth 20000 in
theorem gX5_next_X5_refuse : GoodIn wsX5_next (wsV RX5 86 RX5 yX5_refuse wsX5_refuse) := goodIn_app (goodIn_of _ (by decide +kernel)) ggX5_next_X5_refuse
theorem dX5_next_0 : decode cX5_next 0 = .ok (.aload_n 0, 1) := by decide +kernel
theorem dX5_next_1 : decode cX5_next 1 = .ok (.iconst 0, 1) := by decide +kernel
theorem dX5_next_2 : decode cX5_next 2 = .ok (.putfield 50, 3) := by decide +kernel
theorem dX5_next_5 : decode cX5_next 5 = .ok (.aload_n 0, 1) := by decide +kernel
theorem dX5_next_6 : decode cX5_next 6 = .ok (.getfield 101, 3) := by decide +kernel
theorem dX5_next_9 : decode cX5_next 9 = .ok (.iconst 4, 1) := by decide +kernel
theorem dX5_next_10 : decode cX5_next 10 = .ok (.if_icmp .ne 12, 3) := by decide +kernel
theorem dX5_next_22 : decode cX5_next 22 = .ok (.aload_n 0, 1) := by decide +kernel
theorem dX5_next_23 : decode cX5_next 23 = .ok (.iconst 1, 1) := by decide +kernel
theorem dX5_next_24 : decode cX5_next 24 = .ok (.invokevirtual 86, 3) := by decide +kernel
theorem dX5_next_27 : decode cX5_next 27 = .ok (.ireturn, 1) := by decide +kernel
set_option maxRecDepth 20000 in
theorem ggX5_ofHouse_X5_isHouse : GoodIn wsX5_ofHouse wsX5_isHouse := goodIn_r _ [6, 7, 8, 9, 10, 11, 12, 13, 14, 15, 5, 16, 86, 87, 88, 89, 90, 91, 92, 93, 94, 95, 96, 97, 98, 99, 100, 101, 102, 103, 104, 105, 106, 107, 108] (by decide +kernel) (by decide +kernel)
set_option maxRecDepth 20000 in
theorem gX5_ofHouse_X5_isHouse : GoodIn wsX5_ofHouse (wsV RX5 94 RX5 yX5_isHouse wsX5_isHouse) := goodIn_app (goodIn_of _ (by decide +kernel)) ggX5_ofHouse_X5_isHouse
set_option maxRecDepth 20000 in
theorem ggX5_ofHouse_X5_refuse : GoodIn wsX5_ofHouse wsX5_refuse := goodIn_r _ [20, 1, 86, 87, 88, 89, 90, 91, 92, 93, 94, 95, 96, 97, 98, 99, 100, 101, 102, 103, 104, 105] (by decide +kernel) (by decide +kernel)
set_option maxRecDepth 20000 in
theorem gX5_ofHouse_X5_refuse : GoodIn wsX5_ofHouse (wsV RX5 86 RX5 yX5_refuse wsX5_refuse) := goodIn_app (goodIn_of _ (by decide +kernel)) ggX5_ofHouse_X5_refuse
theorem dX5_ofHouse_0 : decode cX5_ofHouse 0 = .ok (.aload_n 0, 1) := by decide +kernel
theorem dX5_ofHouse_1 : decode cX5_ofHouse 1 = .ok (.iconst 0, 1) := by decide +kernel
theorem dX5_ofHouse_2 : decode cX5_ofHouse 2 = .ok (.putfield 50, 3) := by decide +kernel
theorem dX5_ofHouse_5 : decode cX5_ofHouse 5 = .ok (.aload_n 0, 1) := by decide +kernel
theorem dX5_ofHouse_6 : decode cX5_ofHouse 6 = .ok (.iload_n 1, 1) := by decide +kernel
theorem dX5_ofHouse_7 : decode cX5_ofHouse 7 = .ok (.invokevirtual 94, 3) := by decide +kernel
theorem dX5_ofHouse_10 : decode cX5_ofHouse 10 = .ok (.ifCond .ne 9, 3) := by decide +kernel
theorem dX5_ofHouse_13 : decode cX5_ofHouse 13 = .ok (.aload_n 0, 1) := by decide +kernel
theorem dX5_ofHouse_14 : decode cX5_ofHouse 14 = .ok (.iconst 1, 1) := by decide +kernel
theorem dX5_ofHouse_15 : decode cX5_ofHouse 15 = .ok (.invokevirtual 86, 3) := by decide +kernel
theorem dX5_ofHouse_18 : decode cX5_ofHouse 18 = .ok (.ireturn, 1) := by decide +kernel
