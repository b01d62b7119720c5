theorem dX4_readForDay_34 : decode cX4_readForDay 34 = .ok (.iadd, 1) := by decide +kernel
theorem dX4_readForDay_35 : decode cX4_readForDay 35 = .ok (.istore_n 1, 1) := by decide +kernel
theorem dX4_readForDay_36 : decode cX4_readForDay 36 = .ok (.iinc 2 1, 3) := by decide +kernel
theorem dX4_readForDay_39 : decode cX4_readForDay 39 = .ok (.goto (-27), 3) := by decide +kernel
theorem dX4_readForDay_42 : decode cX4_readForDay 42 = .ok (.iload_n 1, 1) := by decide +kernel
theorem dX4_readForDay_43 : decode cX4_readForDay 43 = .ok (.ireturn, 1) := by decide +kernel
theorem dX4_areCratesRead_0 : decode cX4_areCratesRead 0 = .ok (.iconst 0, 1) := by decide +kernel
theorem dX4_areCratesRead_1 : decode cX4_areCratesRead 1 = .ok (.istore_n 1, 1) := by decide +kernel
theorem dX4_areCratesRead_2 : decode cX4_areCratesRead 2 = .ok (.iload_n 1, 1) := by decide +kernel
theorem dX4_areCratesRead_3 : decode cX4_areCratesRead 3 = .ok (.aload_n 0, 1) := by decide +kernel
theorem dX4_areCratesRead_4 : decode cX4_areCratesRead 4 = .ok (.getfield 102, 3) := by decide +kernel
theorem dX4_areCratesRead_7 : decode cX4_areCratesRead 7 = .ok (.if_icmp .ge 23, 3) := by decide +kernel
theorem dX4_areCratesRead_10 : decode cX4_areCratesRead 10 = .ok (.aload_n 0, 1) := by decide +kernel
theorem dX4_areCratesRead_11 : decode cX4_areCratesRead 11 = .ok (.getfield 23, 3) := by decide +kernel
theorem dX4_areCratesRead_14 : decode cX4_areCratesRead 14 = .ok (.iload_n 1, 1) := by decide +kernel
theorem dX4_areCratesRead_15 : decode cX4_areCratesRead 15 = .ok (.aaload, 1) := by decide +kernel
theorem dX4_areCratesRead_16 : decode cX4_areCratesRead 16 = .ok (.invokevirtual 333, 3) := by decide +kernel
theorem dX4_areCratesRead_19 : decode cX4_areCratesRead 19 = .ok (.ifCond .le 5, 3) := by decide +kernel
theorem dX4_areCratesRead_22 : decode cX4_areCratesRead 22 = .ok (.iconst 0, 1) := by decide +kernel
theorem dX4_areCratesRead_23 : decode cX4_areCratesRead 23 = .ok (.ireturn, 1) := by decide +kernel
theorem dX4_areCratesRead_24 : decode cX4_areCratesRead 24 = .ok (.iinc 1 1, 3) := by decide +kernel
theorem dX4_areCratesRead_27 : decode cX4_areCratesRead 27 = .ok (.goto (-25), 3) := by decide +kernel
theorem dX4_areCratesRead_30 : decode cX4_areCratesRead 30 = .ok (.iconst 1, 1) := by decide +kernel
theorem dX4_areCratesRead_31 : decode cX4_areCratesRead 31 = .ok (.ireturn, 1) := by decide +kernel
theorem dX4_askedInDay_0 : decode cX4_askedInDay 0 = .ok (.iload_n 1, 1) := by decide +kernel
theorem dX4_askedInDay_1 : decode cX4_askedInDay 1 = .ok (.aload_n 0, 1) := by decide +kernel
theorem dX4_askedInDay_2 : decode cX4_askedInDay 2 = .ok (.getfield 41, 3) := by decide +kernel
theorem dX4_askedInDay_5 : decode cX4_askedInDay 5 = .ok (.if_icmp .eq 11, 3) := by decide +kernel
theorem dX4_askedInDay_8 : decode cX4_askedInDay 8 = .ok (.iload_n 1, 1) := by decide +kernel
theorem dX4_askedInDay_9 : decode cX4_askedInDay 9 = .ok (.aload_n 0, 1) := by decide +kernel
theorem dX4_askedInDay_10 : decode cX4_askedInDay 10 = .ok (.getfield 44, 3) := by decide +kernel
theorem dX4_askedInDay_13 : decode cX4_askedInDay 13 = .ok (.if_icmp .ne 6, 3) := by decide +kernel
theorem dX4_askedInDay_16 : decode cX4_askedInDay 16 = .ok (.bipush 90, 2) := by decide +kernel
theorem dX4_askedInDay_18 : decode cX4_askedInDay 18 = .ok (.ireturn, 1) := by decide +kernel
theorem dX4_askedInDay_19 : decode cX4_askedInDay 19 = .ok (.aload_n 0, 1) := by decide +kernel
theorem dX4_askedInDay_20 : decode cX4_askedInDay 20 = .ok (.getfield 246, 3) := by decide +kernel
theorem dX4_askedInDay_23 : decode cX4_askedInDay 23 = .ok (.iload_n 1, 1) := by decide +kernel
theorem dX4_askedInDay_24 : decode cX4_askedInDay 24 = .ok (.invokestatic 223, 3) := by decide +kernel
theorem dX4_askedInDay_27 : decode cX4_askedInDay 27 = .ok (.ifCond .eq 6, 3) := by decide +kernel
theorem dX4_askedInDay_30 : decode cX4_askedInDay 30 = .ok (.bipush 20, 2) := by decide +kernel
theorem dX4_askedInDay_32 : decode cX4_askedInDay 32 = .ok (.ireturn, 1) := by decide +kernel
theorem dX4_askedInDay_33 : decode cX4_askedInDay 33 = .ok (.aload_n 0, 1) := by decide +kernel
theorem dX4_askedInDay_34 : decode cX4_askedInDay 34 = .ok (.getfield 220, 3) := by decide +kernel
theorem dX4_askedInDay_37 : decode cX4_askedInDay 37 = .ok (.iload_n 1, 1) := by decide +kernel
theorem dX4_askedInDay_38 : decode cX4_askedInDay 38 = .ok (.invokestatic 223, 3) := by decide +kernel
theorem dX4_askedInDay_41 : decode cX4_askedInDay 41 = .ok (.ifCond .eq 7, 3) := by decide +kernel
theorem dX4_askedInDay_44 : decode cX4_askedInDay 44 = .ok (.iconst 5, 1) := by decide +kernel
theorem dX4_askedInDay_45 : decode cX4_askedInDay 45 = .ok (.goto 4, 3) := by decide +kernel
theorem dX4_askedInDay_48 : decode cX4_askedInDay 48 = .ok (.iconst 1, 1) := by decide +kernel
theorem dX4_askedInDay_49 : decode cX4_askedInDay 49 = .ok (.ireturn, 1) := by decide +kernel
theorem dX4_sellFor_0 : decode cX4_sellFor 0 = .ok (.iconst 0, 1) := by decide +kernel
theorem dX4_sellFor_1 : decode cX4_sellFor 1 = .ok (.istore_n 2, 1) := by decide +kernel
theorem dX4_sellFor_2 : decode cX4_sellFor 2 = .ok (.iload_n 2, 1) := by decide +kernel
theorem dX4_sellFor_3 : decode cX4_sellFor 3 = .ok (.aload_n 0, 1) := by decide +kernel
theorem dX4_sellFor_4 : decode cX4_sellFor 4 = .ok (.getfield 85, 3) := by decide +kernel
theorem dX4_sellFor_7 : decode cX4_sellFor 7 = .ok (.if_icmp .ge 49, 3) := by decide +kernel
theorem dX4_sellFor_10 : decode cX4_sellFor 10 = .ok (.aload_n 0, 1) := by decide +kernel
theorem dX4_sellFor_11 : decode cX4_sellFor 11 = .ok (.getfield 17, 3) := by decide +kernel
theorem dX4_sellFor_14 : decode cX4_sellFor 14 = .ok (.iload_n 2, 1) := by decide +kernel
theorem dX4_sellFor_15 : decode cX4_sellFor 15 = .ok (.aaload, 1) := by decide +kernel
theorem dX4_sellFor_16 : decode cX4_sellFor 16 = .ok (.aload_n 0, 1) := by decide +kernel
theorem dX4_sellFor_17 : decode cX4_sellFor 17 = .ok (.iload_n 2, 1) := by decide +kernel
theorem dX4_sellFor_18 : decode cX4_sellFor 18 = .ok (.invokevirtual 372, 3) := by decide +kernel
theorem dX4_sellFor_21 : decode cX4_sellFor 21 = .ok (.iload_n 1, 1) := by decide +kernel
theorem dX4_sellFor_22 : decode cX4_sellFor 22 = .ok (.imul, 1) := by decide +kernel
theorem dX4_sellFor_23 : decode cX4_sellFor 23 = .ok (.invokevirtual 434, 3) := by decide +kernel
theorem dX4_sellFor_26 : decode cX4_sellFor 26 = .ok (.istore_n 3, 1) := by decide +kernel
theorem dX4_sellFor_27 : decode cX4_sellFor 27 = .ok (.aload_n 0, 1) := by decide +kernel
theorem dX4_sellFor_28 : decode cX4_sellFor 28 = .ok (.getfield 11, 3) := by decide +kernel
theorem dX4_sellFor_31 : decode cX4_sellFor 31 = .ok (.aload_n 0, 1) := by decide +kernel
theorem dX4_sellFor_32 : decode cX4_sellFor 32 = .ok (.getfield 17, 3) := by decide +kernel
theorem dX4_sellFor_35 : decode cX4_sellFor 35 = .ok (.iload_n 2, 1) := by decide +kernel
theorem dX4_sellFor_36 : decode cX4_sellFor 36 = .ok (.aaload, 1) := by decide +kernel
theorem dX4_sellFor_37 : decode cX4_sellFor 37 = .ok (.getfield 151, 3) := by decide +kernel
theorem dX4_sellFor_40 : decode cX4_sellFor 40 = .ok (.aaload, 1) := by decide +kernel
theorem dX4_sellFor_41 : decode cX4_sellFor 41 = .ok (.dup, 1) := by decide +kernel
theorem dX4_sellFor_42 : decode cX4_sellFor 42 = .ok (.getfield 293, 3) := by decide +kernel
theorem dX4_sellFor_45 : decode cX4_sellFor 45 = .ok (.iload_n 3, 1) := by decide +kernel
theorem dX4_sellFor_46 : decode cX4_sellFor 46 = .ok (.iadd, 1) := by decide +kernel
theorem dX4_sellFor_47 : decode cX4_sellFor 47 = .ok (.putfield 293, 3) := by decide +kernel
theorem dX4_sellFor_50 : decode cX4_sellFor 50 = .ok (.iinc 2 1, 3) := by decide +kernel
theorem dX4_sellFor_53 : decode cX4_sellFor 53 = .ok (.goto (-51), 3) := by decide +kernel
theorem dX4_sellFor_56 : decode cX4_sellFor 56 = .ok (.return_, 1) := by decide +kernel
theorem dX4_soldEver_0 : decode cX4_soldEver 0 = .ok (.iconst 0, 1) := by decide +kernel
theorem dX4_soldEver_1 : decode cX4_soldEver 1 = .ok (.istore_n 1, 1) := by decide +kernel
theorem dX4_soldEver_2 : decode cX4_soldEver 2 = .ok (.iconst 0, 1) := by decide +kernel
theorem dX4_soldEver_3 : decode cX4_soldEver 3 = .ok (.istore_n 2, 1) := by decide +kernel
theorem dX4_soldEver_4 : decode cX4_soldEver 4 = .ok (.iload_n 2, 1) := by decide +kernel
theorem dX4_soldEver_5 : decode cX4_soldEver 5 = .ok (.aload_n 0, 1) := by decide +kernel
theorem dX4_soldEver_6 : decode cX4_soldEver 6 = .ok (.getfield 85, 3) := by decide +kernel
theorem dX4_soldEver_9 : decode cX4_soldEver 9 = .ok (.if_icmp .ge 21, 3) := by decide +kernel
theorem dX4_soldEver_12 : decode cX4_soldEver 12 = .ok (.iload_n 1, 1) := by decide +kernel
theorem dX4_soldEver_13 : decode cX4_soldEver 13 = .ok (.aload_n 0, 1) := by decide +kernel
theorem dX4_soldEver_14 : decode cX4_soldEver 14 = .ok (.getfield 17, 3) := by decide +kernel
theorem dX4_soldEver_17 : decode cX4_soldEver 17 = .ok (.iload_n 2, 1) := by decide +kernel
theorem dX4_soldEver_18 : decode cX4_soldEver 18 = .ok (.aaload, 1) := by decide +kernel
theorem dX4_soldEver_19 : decode cX4_soldEver 19 = .ok (.getfield 307, 3) := by decide +kernel
theorem dX4_soldEver_22 : decode cX4_soldEver 22 = .ok (.iadd, 1) := by decide +kernel
theorem dX4_soldEver_23 : decode cX4_soldEver 23 = .ok (.istore_n 1, 1) := by decide +kernel
theorem dX4_soldEver_24 : decode cX4_soldEver 24 = .ok (.iinc 2 1, 3) := by decide +kernel
theorem dX4_soldEver_27 : decode cX4_soldEver 27 = .ok (.goto (-23), 3) := by decide +kernel
theorem dX4_soldEver_30 : decode cX4_soldEver 30 = .ok (.iload_n 1, 1) := by decide +kernel
theorem dX4_soldEver_31 : decode cX4_soldEver 31 = .ok (.ireturn, 1) := by decide +kernel
theorem dX4_missedEver_0 : decode cX4_missedEver 0 = .ok (.iconst 0, 1) := by decide +kernel
theorem dX4_missedEver_1 : decode cX4_missedEver 1 = .ok (.istore_n 1, 1) := by decide +kernel
theorem dX4_missedEver_2 : decode cX4_missedEver 2 = .ok (.iconst 0, 1) := by decide +kernel
theorem dX4_missedEver_3 : decode cX4_missedEver 3 = .ok (.istore_n 2, 1) := by decide +kernel
theorem dX4_missedEver_4 : decode cX4_missedEver 4 = .ok (.iload_n 2, 1) := by decide +kernel
theorem dX4_missedEver_5 : decode cX4_missedEver 5 = .ok (.aload_n 0, 1) := by decide +kernel
theorem dX4_missedEver_6 : decode cX4_missedEver 6 = .ok (.getfield 85, 3) := by decide +kernel
theorem dX4_missedEver_9 : decode cX4_missedEver 9 = .ok (.if_icmp .ge 21, 3) := by decide +kernel
theorem dX4_missedEver_12 : decode cX4_missedEver 12 = .ok (.iload_n 1, 1) := by decide +kernel
theorem dX4_missedEver_13 : decode cX4_missedEver 13 = .ok (.aload_n 0, 1) := by decide +kernel
theorem dX4_missedEver_14 : decode cX4_missedEver 14 = .ok (.getfield 17, 3) := by decide +kernel
theorem dX4_missedEver_17 : decode cX4_missedEver 17 = .ok (.iload_n 2, 1) := by decide +kernel
theorem dX4_missedEver_18 : decode cX4_missedEver 18 = .ok (.aaload, 1) := by decide +kernel
theorem dX4_missedEver_19 : decode cX4_missedEver 19 = .ok (.getfield 310, 3) := by decide +kernel
theorem dX4_missedEver_22 : decode cX4_missedEver 22 = .ok (.iadd, 1) := by decide +kernel
theorem dX4_missedEver_23 : decode cX4_missedEver 23 = .ok (.istore_n 1, 1) := by decide +kernel
theorem dX4_missedEver_24 : decode cX4_missedEver 24 = .ok (.iinc 2 1, 3) := by decide +kernel
theorem dX4_missedEver_27 : decode cX4_missedEver 27 = .ok (.goto (-23), 3) := by decide +kernel
theorem dX4_missedEver_30 : decode cX4_missedEver 30 = .ok (.iload_n 1, 1) := by decide +kernel
theorem dX4_missedEver_31 : decode cX4_missedEver 31 = .ok (.ireturn, 1) := by decide +kernel
theorem dX4_isFairMark_0 : decode cX4_isFairMark 0 = .ok (.aload_n 0, 1) := by decide +kernel
theorem dX4_isFairMark_1 : decode cX4_isFairMark 1 = .ok (.getfield 23, 3) := by decide +kernel
theorem dX4_isFairMark_4 : decode cX4_isFairMark 4 = .ok (.iload_n 1, 1) := by decide +kernel
theorem dX4_isFairMark_5 : decode cX4_isFairMark 5 = .ok (.aaload, 1) := by decide +kernel
theorem dX4_isFairMark_6 : decode cX4_isFairMark 6 = .ok (.getfield 347, 3) := by decide +kernel
theorem dX4_isFairMark_9 : decode cX4_isFairMark 9 = .ok (.iload_n 2, 1) := by decide +kernel
theorem dX4_isFairMark_10 : decode cX4_isFairMark 10 = .ok (.iaload, 1) := by decide +kernel
theorem dX4_isFairMark_11 : decode cX4_isFairMark 11 = .ok (.iconst (-1), 1) := by decide +kernel
theorem dX4_isFairMark_12 : decode cX4_isFairMark 12 = .ok (.if_icmp .eq 28, 3) := by decide +kernel
theorem dX4_isFairMark_15 : decode cX4_isFairMark 15 = .ok (.aload_n 0, 1) := by decide +kernel
theorem dX4_isFairMark_16 : decode cX4_isFairMark 16 = .ok (.getfield 23, 3) := by decide +kernel
theorem dX4_isFairMark_19 : decode cX4_isFairMark 19 = .ok (.iload_n 1, 1) := by decide +kernel
theorem dX4_isFairMark_20 : decode cX4_isFairMark 20 = .ok (.aaload, 1) := by decide +kernel
theorem dX4_isFairMark_21 : decode cX4_isFairMark 21 = .ok (.aload_n 0, 1) := by decide +kernel
theorem dX4_isFairMark_22 : decode cX4_isFairMark 22 = .ok (.getfield 17, 3) := by decide +kernel
theorem dX4_isFairMark_25 : decode cX4_isFairMark 25 = .ok (.iload_n 2, 1) := by decide +kernel
theorem dX4_isFairMark_26 : decode cX4_isFairMark 26 = .ok (.aaload, 1) := by decide +kernel
theorem dX4_isFairMark_27 : decode cX4_isFairMark 27 = .ok (.getfield 170, 3) := by decide +kernel
theorem dX4_isFairMark_30 : decode cX4_isFairMark 30 = .ok (.invokevirtual 173, 3) := by decide +kernel
theorem dX4_isFairMark_33 : decode cX4_isFairMark 33 = .ok (.ifCond .ne 7, 3) := by decide +kernel
theorem dX4_isFairMark_36 : decode cX4_isFairMark 36 = .ok (.iconst 1, 1) := by decide +kernel
theorem dX4_isFairMark_37 : decode cX4_isFairMark 37 = .ok (.goto 4, 3) := by decide +kernel
theorem dX4_isFairMark_40 : decode cX4_isFairMark 40 = .ok (.iconst 0, 1) := by decide +kernel
theorem dX4_isFairMark_41 : decode cX4_isFairMark 41 = .ok (.ireturn, 1) := by decide +kernel
theorem dX4_fairMarksOf_0 : decode cX4_fairMarksOf 0 = .ok (.iconst 0, 1) := by decide +kernel
theorem dX4_fairMarksOf_1 : decode cX4_fairMarksOf 1 = .ok (.istore_n 2, 1) := by decide +kernel
theorem dX4_fairMarksOf_2 : decode cX4_fairMarksOf 2 = .ok (.iconst 0, 1) := by decide +kernel
theorem dX4_fairMarksOf_3 : decode cX4_fairMarksOf 3 = .ok (.istore_n 3, 1) := by decide +kernel
theorem dX4_fairMarksOf_4 : decode cX4_fairMarksOf 4 = .ok (.iload_n 3, 1) := by decide +kernel
theorem dX4_fairMarksOf_5 : decode cX4_fairMarksOf 5 = .ok (.aload_n 0, 1) := by decide +kernel
theorem dX4_fairMarksOf_6 : decode cX4_fairMarksOf 6 = .ok (.getfield 102, 3) := by decide +kernel
theorem dX4_fairMarksOf_9 : decode cX4_fairMarksOf 9 = .ok (.if_icmp .ge 21, 3) := by decide +kernel
theorem dX4_fairMarksOf_12 : decode cX4_fairMarksOf 12 = .ok (.aload_n 0, 1) := by decide +kernel
theorem dX4_fairMarksOf_13 : decode cX4_fairMarksOf 13 = .ok (.iload_n 3, 1) := by decide +kernel
theorem dX4_fairMarksOf_14 : decode cX4_fairMarksOf 14 = .ok (.iload_n 1, 1) := by decide +kernel
theorem dX4_fairMarksOf_15 : decode cX4_fairMarksOf 15 = .ok (.invokevirtual 437, 3) := by decide +kernel
theorem dX4_fairMarksOf_18 : decode cX4_fairMarksOf 18 = .ok (.ifCond .eq 6, 3) := by decide +kernel
theorem dX4_fairMarksOf_21 : decode cX4_fairMarksOf 21 = .ok (.iinc 2 1, 3) := by decide +kernel
theorem dX4_fairMarksOf_24 : decode cX4_fairMarksOf 24 = .ok (.iinc 3 1, 3) := by decide +kernel
theorem dX4_fairMarksOf_27 : decode cX4_fairMarksOf 27 = .ok (.goto (-23), 3) := by decide +kernel
theorem dX4_fairMarksOf_30 : decode cX4_fairMarksOf 30 = .ok (.iload_n 2, 1) := by decide +kernel
theorem dX4_fairMarksOf_31 : decode cX4_fairMarksOf 31 = .ok (.ireturn, 1) := by decide +kernel
theorem dX4_scoreOf_0 : decode cX4_scoreOf 0 = .ok (.iconst 0, 1) := by decide +kernel
theorem dX4_scoreOf_1 : decode cX4_scoreOf 1 = .ok (.istore_n 2, 1) := by decide +kernel
theorem dX4_scoreOf_2 : decode cX4_scoreOf 2 = .ok (.iconst 0, 1) := by decide +kernel
theorem dX4_scoreOf_3 : decode cX4_scoreOf 3 = .ok (.istore_n 3, 1) := by decide +kernel
theorem dX4_scoreOf_4 : decode cX4_scoreOf 4 = .ok (.iconst 0, 1) := by decide +kernel
theorem dX4_scoreOf_5 : decode cX4_scoreOf 5 = .ok (.istore 4, 2) := by decide +kernel
theorem dX4_scoreOf_7 : decode cX4_scoreOf 7 = .ok (.iload 4, 2) := by decide +kernel
theorem dX4_scoreOf_9 : decode cX4_scoreOf 9 = .ok (.aload_n 0, 1) := by decide +kernel
theorem dX4_scoreOf_10 : decode cX4_scoreOf 10 = .ok (.getfield 102, 3) := by decide +kernel
theorem dX4_scoreOf_13 : decode cX4_scoreOf 13 = .ok (.if_icmp .ge 51, 3) := by decide +kernel
theorem dX4_scoreOf_16 : decode cX4_scoreOf 16 = .ok (.aload_n 0, 1) := by decide +kernel
theorem dX4_scoreOf_17 : decode cX4_scoreOf 17 = .ok (.iload 4, 2) := by decide +kernel
theorem dX4_scoreOf_19 : decode cX4_scoreOf 19 = .ok (.iload_n 1, 1) := by decide +kernel
theorem dX4_scoreOf_20 : decode cX4_scoreOf 20 = .ok (.invokevirtual 437, 3) := by decide +kernel
theorem dX4_scoreOf_23 : decode cX4_scoreOf 23 = .ok (.ifCond .eq 35, 3) := by decide +kernel
theorem dX4_scoreOf_26 : decode cX4_scoreOf 26 = .ok (.iload_n 2, 1) := by decide +kernel
theorem dX4_scoreOf_27 : decode cX4_scoreOf 27 = .ok (.bipush 10, 2) := by decide +kernel
theorem dX4_scoreOf_29 : decode cX4_scoreOf 29 = .ok (.aload_n 0, 1) := by decide +kernel
theorem dX4_scoreOf_30 : decode cX4_scoreOf 30 = .ok (.getfield 23, 3) := by decide +kernel
theorem dX4_scoreOf_33 : decode cX4_scoreOf 33 = .ok (.iload 4, 2) := by decide +kernel
theorem dX4_scoreOf_35 : decode cX4_scoreOf 35 = .ok (.aaload, 1) := by decide +kernel
theorem dX4_scoreOf_36 : decode cX4_scoreOf 36 = .ok (.getfield 347, 3) := by decide +kernel
theorem dX4_scoreOf_39 : decode cX4_scoreOf 39 = .ok (.iload_n 1, 1) := by decide +kernel
theorem dX4_scoreOf_40 : decode cX4_scoreOf 40 = .ok (.iaload, 1) := by decide +kernel
theorem dX4_scoreOf_41 : decode cX4_scoreOf 41 = .ok (.imul, 1) := by decide +kernel
theorem dX4_scoreOf_42 : decode cX4_scoreOf 42 = .ok (.aload_n 0, 1) := by decide +kernel
theorem dX4_scoreOf_43 : decode cX4_scoreOf 43 = .ok (.getfield 23, 3) := by decide +kernel
theorem dX4_scoreOf_46 : decode cX4_scoreOf 46 = .ok (.iload 4, 2) := by decide +kernel
theorem dX4_scoreOf_48 : decode cX4_scoreOf 48 = .ok (.aaload, 1) := by decide +kernel
theorem dX4_scoreOf_49 : decode cX4_scoreOf 49 = .ok (.invokevirtual 440, 3) := by decide +kernel
theorem dX4_scoreOf_52 : decode cX4_scoreOf 52 = .ok (.isub, 1) := by decide +kernel
theorem dX4_scoreOf_53 : decode cX4_scoreOf 53 = .ok (.iadd, 1) := by decide +kernel
theorem dX4_scoreOf_54 : decode cX4_scoreOf 54 = .ok (.istore_n 2, 1) := by decide +kernel
theorem dX4_scoreOf_55 : decode cX4_scoreOf 55 = .ok (.iinc 3 1, 3) := by decide +kernel
theorem dX4_scoreOf_58 : decode cX4_scoreOf 58 = .ok (.iinc 4 1, 3) := by decide +kernel
theorem dX4_scoreOf_61 : decode cX4_scoreOf 61 = .ok (.goto (-54), 3) := by decide +kernel
theorem dX4_scoreOf_64 : decode cX4_scoreOf 64 = .ok (.iload_n 3, 1) := by decide +kernel
theorem dX4_scoreOf_65 : decode cX4_scoreOf 65 = .ok (.ifCond .ne 7, 3) := by decide +kernel
theorem dX4_scoreOf_68 : decode cX4_scoreOf 68 = .ok (.iconst 0, 1) := by decide +kernel
theorem dX4_scoreOf_69 : decode cX4_scoreOf 69 = .ok (.goto 12, 3) := by decide +kernel
theorem dX4_scoreOf_72 : decode cX4_scoreOf 72 = .ok (.iload_n 2, 1) := by decide +kernel
theorem dX4_scoreOf_73 : decode cX4_scoreOf 73 = .ok (.iload_n 3, 1) := by decide +kernel
theorem dX4_scoreOf_74 : decode cX4_scoreOf 74 = .ok (.invokestatic 443, 3) := by decide +kernel
theorem dX4_scoreOf_77 : decode cX4_scoreOf 77 = .ok (.sipush 500, 3) := by decide +kernel
theorem dX4_scoreOf_80 : decode cX4_scoreOf 80 = .ok (.iadd, 1) := by decide +kernel
theorem dX4_scoreOf_81 : decode cX4_scoreOf 81 = .ok (.ireturn, 1) := by decide +kernel
theorem dX4_pointsOf_0 : decode cX4_pointsOf 0 = .ok (.iconst 0, 1) := by decide +kernel
theorem dX4_pointsOf_1 : decode cX4_pointsOf 1 = .ok (.istore_n 2, 1) := by decide +kernel
theorem dX4_pointsOf_2 : decode cX4_pointsOf 2 = .ok (.iconst 0, 1) := by decide +kernel
theorem dX4_pointsOf_3 : decode cX4_pointsOf 3 = .ok (.istore_n 3, 1) := by decide +kernel
theorem dX4_pointsOf_4 : decode cX4_pointsOf 4 = .ok (.iload_n 3, 1) := by decide +kernel
theorem dX4_pointsOf_5 : decode cX4_pointsOf 5 = .ok (.aload_n 0, 1) := by decide +kernel
theorem dX4_pointsOf_6 : decode cX4_pointsOf 6 = .ok (.getfield 102, 3) := by decide +kernel
theorem dX4_pointsOf_9 : decode cX4_pointsOf 9 = .ok (.if_icmp .ge 44, 3) := by decide +kernel
theorem dX4_pointsOf_12 : decode cX4_pointsOf 12 = .ok (.aload_n 0, 1) := by decide +kernel
theorem dX4_pointsOf_13 : decode cX4_pointsOf 13 = .ok (.getfield 23, 3) := by decide +kernel
theorem dX4_pointsOf_16 : decode cX4_pointsOf 16 = .ok (.iload_n 3, 1) := by decide +kernel
theorem dX4_pointsOf_17 : decode cX4_pointsOf 17 = .ok (.aaload, 1) := by decide +kernel
theorem dX4_pointsOf_18 : decode cX4_pointsOf 18 = .ok (.aload_n 0, 1) := by decide +kernel
theorem dX4_pointsOf_19 : decode cX4_pointsOf 19 = .ok (.getfield 17, 3) := by decide +kernel
theorem dX4_pointsOf_22 : decode cX4_pointsOf 22 = .ok (.iload_n 1, 1) := by decide +kernel
theorem dX4_pointsOf_23 : decode cX4_pointsOf 23 = .ok (.aaload, 1) := by decide +kernel
theorem dX4_pointsOf_24 : decode cX4_pointsOf 24 = .ok (.getfield 170, 3) := by decide +kernel
theorem dX4_pointsOf_27 : decode cX4_pointsOf 27 = .ok (.invokevirtual 173, 3) := by decide +kernel
theorem dX4_pointsOf_30 : decode cX4_pointsOf 30 = .ok (.ifCond .ne 17, 3) := by decide +kernel
theorem dX4_pointsOf_33 : decode cX4_pointsOf 33 = .ok (.iload_n 2, 1) := by decide +kernel
theorem dX4_pointsOf_34 : decode cX4_pointsOf 34 = .ok (.aload_n 0, 1) := by decide +kernel
theorem dX4_pointsOf_35 : decode cX4_pointsOf 35 = .ok (.getfield 23, 3) := by decide +kernel
theorem dX4_pointsOf_38 : decode cX4_pointsOf 38 = .ok (.iload_n 3, 1) := by decide +kernel
theorem dX4_pointsOf_39 : decode cX4_pointsOf 39 = .ok (.aaload, 1) := by decide +kernel
theorem dX4_pointsOf_40 : decode cX4_pointsOf 40 = .ok (.getfield 234, 3) := by decide +kernel
theorem dX4_pointsOf_43 : decode cX4_pointsOf 43 = .ok (.iload_n 1, 1) := by decide +kernel
theorem dX4_pointsOf_44 : decode cX4_pointsOf 44 = .ok (.iaload, 1) := by decide +kernel
theorem dX4_pointsOf_45 : decode cX4_pointsOf 45 = .ok (.iadd, 1) := by decide +kernel
theorem dX4_pointsOf_46 : decode cX4_pointsOf 46 = .ok (.istore_n 2, 1) := by decide +kernel
theorem dX4_pointsOf_47 : decode cX4_pointsOf 47 = .ok (.iinc 3 1, 3) := by decide +kernel
theorem dX4_pointsOf_50 : decode cX4_pointsOf 50 = .ok (.goto (-46), 3) := by decide +kernel
theorem dX4_pointsOf_53 : decode cX4_pointsOf 53 = .ok (.iload_n 2, 1) := by decide +kernel
theorem dX4_pointsOf_54 : decode cX4_pointsOf 54 = .ok (.ireturn, 1) := by decide +kernel
theorem dX4_giversTo_0 : decode cX4_giversTo 0 = .ok (.iconst 0, 1) := by decide +kernel
theorem dX4_giversTo_1 : decode cX4_giversTo 1 = .ok (.istore_n 2, 1) := by decide +kernel
theorem dX4_giversTo_2 : decode cX4_giversTo 2 = .ok (.iconst 0, 1) := by decide +kernel
theorem dX4_giversTo_3 : decode cX4_giversTo 3 = .ok (.istore_n 3, 1) := by decide +kernel
theorem dX4_giversTo_4 : decode cX4_giversTo 4 = .ok (.iload_n 3, 1) := by decide +kernel
theorem dX4_giversTo_5 : decode cX4_giversTo 5 = .ok (.aload_n 0, 1) := by decide +kernel
theorem dX4_giversTo_6 : decode cX4_giversTo 6 = .ok (.getfield 102, 3) := by decide +kernel
theorem dX4_giversTo_9 : decode cX4_giversTo 9 = .ok (.if_icmp .ge 47, 3) := by decide +kernel
theorem dX4_giversTo_12 : decode cX4_giversTo 12 = .ok (.aload_n 0, 1) := by decide +kernel
theorem dX4_giversTo_13 : decode cX4_giversTo 13 = .ok (.getfield 23, 3) := by decide +kernel
theorem dX4_giversTo_16 : decode cX4_giversTo 16 = .ok (.iload_n 3, 1) := by decide +kernel
theorem dX4_giversTo_17 : decode cX4_giversTo 17 = .ok (.aaload, 1) := by decide +kernel
theorem dX4_giversTo_18 : decode cX4_giversTo 18 = .ok (.getfield 234, 3) := by decide +kernel
theorem dX4_giversTo_21 : decode cX4_giversTo 21 = .ok (.iload_n 1, 1) := by decide +kernel
theorem dX4_giversTo_22 : decode cX4_giversTo 22 = .ok (.iaload, 1) := by decide +kernel
theorem dX4_giversTo_23 : decode cX4_giversTo 23 = .ok (.ifCond .le 27, 3) := by decide +kernel
theorem dX4_giversTo_26 : decode cX4_giversTo 26 = .ok (.aload_n 0, 1) := by decide +kernel
theorem dX4_giversTo_27 : decode cX4_giversTo 27 = .ok (.getfield 23, 3) := by decide +kernel
theorem dX4_giversTo_30 : decode cX4_giversTo 30 = .ok (.iload_n 3, 1) := by decide +kernel
theorem dX4_giversTo_31 : decode cX4_giversTo 31 = .ok (.aaload, 1) := by decide +kernel
theorem dX4_giversTo_32 : decode cX4_giversTo 32 = .ok (.aload_n 0, 1) := by decide +kernel
theorem dX4_giversTo_33 : decode cX4_giversTo 33 = .ok (.getfield 17, 3) := by decide +kernel
theorem dX4_giversTo_36 : decode cX4_giversTo 36 = .ok (.iload_n 1, 1) := by decide +kernel
theorem dX4_giversTo_37 : decode cX4_giversTo 37 = .ok (.aaload, 1) := by decide +kernel
theorem dX4_giversTo_38 : decode cX4_giversTo 38 = .ok (.getfield 170, 3) := by decide +kernel
theorem dX4_giversTo_41 : decode cX4_giversTo 41 = .ok (.invokevirtual 173, 3) := by decide +kernel
theorem dX4_giversTo_44 : decode cX4_giversTo 44 = .ok (.ifCond .ne 6, 3) := by decide +kernel
theorem dX4_giversTo_47 : decode cX4_giversTo 47 = .ok (.iinc 2 1, 3) := by decide +kernel
theorem dX4_giversTo_50 : decode cX4_giversTo 50 = .ok (.iinc 3 1, 3) := by decide +kernel
theorem dX4_giversTo_53 : decode cX4_giversTo 53 = .ok (.goto (-49), 3) := by decide +kernel
theorem dX4_giversTo_56 : decode cX4_giversTo 56 = .ok (.iload_n 2, 1) := by decide +kernel
theorem dX4_giversTo_57 : decode cX4_giversTo 57 = .ok (.ireturn, 1) := by decide +kernel
theorem dX4_standingOf_0 : decode cX4_standingOf 0 = .ok (.iload_n 1, 1) := by decide +kernel
theorem dX4_standingOf_1 : decode cX4_standingOf 1 = .ok (.aload_n 0, 1) := by decide +kernel
theorem dX4_standingOf_2 : decode cX4_standingOf 2 = .ok (.getfield 41, 3) := by decide +kernel
theorem dX4_standingOf_5 : decode cX4_standingOf 5 = .ok (.if_icmp .ne 5, 3) := by decide +kernel
theorem dX4_standingOf_8 : decode cX4_standingOf 8 = .ok (.iconst 3, 1) := by decide +kernel
theorem dX4_standingOf_9 : decode cX4_standingOf 9 = .ok (.ireturn, 1) := by decide +kernel
theorem dX4_standingOf_10 : decode cX4_standingOf 10 = .ok (.aload_n 0, 1) := by decide +kernel
theorem dX4_standingOf_11 : decode cX4_standingOf 11 = .ok (.getfield 246, 3) := by decide +kernel
theorem dX4_standingOf_14 : decode cX4_standingOf 14 = .ok (.iload_n 1, 1) := by decide +kernel
theorem dX4_standingOf_15 : decode cX4_standingOf 15 = .ok (.invokestatic 223, 3) := by decide +kernel
theorem dX4_standingOf_18 : decode cX4_standingOf 18 = .ok (.ifCond .eq 5, 3) := by decide +kernel
theorem dX4_standingOf_21 : decode cX4_standingOf 21 = .ok (.iconst 2, 1) := by decide +kernel
theorem dX4_standingOf_22 : decode cX4_standingOf 22 = .ok (.ireturn, 1) := by decide +kernel
theorem dX4_standingOf_23 : decode cX4_standingOf 23 = .ok (.aload_n 0, 1) := by decide +kernel
theorem dX4_standingOf_24 : decode cX4_standingOf 24 = .ok (.getfield 220, 3) := by decide +kernel
theorem dX4_standingOf_27 : decode cX4_standingOf 27 = .ok (.iload_n 1, 1) := by decide +kernel
theorem dX4_standingOf_28 : decode cX4_standingOf 28 = .ok (.invokestatic 223, 3) := by decide +kernel
theorem dX4_standingOf_31 : decode cX4_standingOf 31 = .ok (.ifCond .eq 7, 3) := by decide +kernel
theorem dX4_standingOf_34 : decode cX4_standingOf 34 = .ok (.iconst 1, 1) := by decide +kernel
theorem dX4_standingOf_35 : decode cX4_standingOf 35 = .ok (.goto 4, 3) := by decide +kernel
theorem dX4_standingOf_38 : decode cX4_standingOf 38 = .ok (.iconst 0, 1) := by decide +kernel
theorem dX4_standingOf_39 : decode cX4_standingOf 39 = .ok (.ireturn, 1) := by decide +kernel
theorem dX4_fairJudgesOf_0 : decode cX4_fairJudgesOf 0 = .ok (.iconst 0, 1) := by decide +kernel
theorem dX4_fairJudgesOf_1 : decode cX4_fairJudgesOf 1 = .ok (.istore_n 2, 1) := by decide +kernel
theorem dX4_fairJudgesOf_2 : decode cX4_fairJudgesOf 2 = .ok (.iconst 0, 1) := by decide +kernel
theorem dX4_fairJudgesOf_3 : decode cX4_fairJudgesOf 3 = .ok (.istore_n 3, 1) := by decide +kernel
theorem dX4_fairJudgesOf_4 : decode cX4_fairJudgesOf 4 = .ok (.iload_n 3, 1) := by decide +kernel
theorem dX4_fairJudgesOf_5 : decode cX4_fairJudgesOf 5 = .ok (.aload_n 0, 1) := by decide +kernel
theorem dX4_fairJudgesOf_6 : decode cX4_fairJudgesOf 6 = .ok (.getfield 102, 3) := by decide +kernel
theorem dX4_fairJudgesOf_9 : decode cX4_fairJudgesOf 9 = .ok (.if_icmp .ge 25, 3) := by decide +kernel
theorem dX4_fairJudgesOf_12 : decode cX4_fairJudgesOf 12 = .ok (.aload_n 0, 1) := by decide +kernel
theorem dX4_fairJudgesOf_13 : decode cX4_fairJudgesOf 13 = .ok (.getfield 23, 3) := by decide +kernel
theorem dX4_fairJudgesOf_16 : decode cX4_fairJudgesOf 16 = .ok (.iload_n 3, 1) := by decide +kernel
theorem dX4_fairJudgesOf_17 : decode cX4_fairJudgesOf 17 = .ok (.aaload, 1) := by decide +kernel
theorem dX4_fairJudgesOf_18 : decode cX4_fairJudgesOf 18 = .ok (.iload_n 1, 1) := by decide +kernel
theorem dX4_fairJudgesOf_19 : decode cX4_fairJudgesOf 19 = .ok (.invokevirtual 173, 3) := by decide +kernel
theorem dX4_fairJudgesOf_22 : decode cX4_fairJudgesOf 22 = .ok (.ifCond .ne 6, 3) := by decide +kernel
theorem dX4_fairJudgesOf_25 : decode cX4_fairJudgesOf 25 = .ok (.iinc 2 1, 3) := by decide +kernel
theorem dX4_fairJudgesOf_28 : decode cX4_fairJudgesOf 28 = .ok (.iinc 3 1, 3) := by decide +kernel
theorem dX4_fairJudgesOf_31 : decode cX4_fairJudgesOf 31 = .ok (.goto (-27), 3) := by decide +kernel
theorem dX4_fairJudgesOf_34 : decode cX4_fairJudgesOf 34 = .ok (.iload_n 2, 1) := by decide +kernel
theorem dX4_fairJudgesOf_35 : decode cX4_fairJudgesOf 35 = .ok (.ireturn, 1) := by decide +kernel
theorem dX4_hasMarksEnough_0 : decode cX4_hasMarksEnough 0 = .ok (.aload_n 0, 1) := by decide +kernel
theorem dX4_hasMarksEnough_1 : decode cX4_hasMarksEnough 1 = .ok (.iload_n 1, 1) := by decide +kernel
theorem dX4_hasMarksEnough_2 : decode cX4_hasMarksEnough 2 = .ok (.invokevirtual 319, 3) := by decide +kernel
theorem dX4_hasMarksEnough_5 : decode cX4_hasMarksEnough 5 = .ok (.istore_n 2, 1) := by decide +kernel
theorem dX4_hasMarksEnough_6 : decode cX4_hasMarksEnough 6 = .ok (.iload_n 2, 1) := by decide +kernel
theorem dX4_hasMarksEnough_7 : decode cX4_hasMarksEnough 7 = .ok (.iconst 2, 1) := by decide +kernel
theorem dX4_hasMarksEnough_8 : decode cX4_hasMarksEnough 8 = .ok (.if_icmp .ge 25, 3) := by decide +kernel
theorem dX4_hasMarksEnough_11 : decode cX4_hasMarksEnough 11 = .ok (.iload_n 2, 1) := by decide +kernel
theorem dX4_hasMarksEnough_12 : decode cX4_hasMarksEnough 12 = .ok (.iconst 1, 1) := by decide +kernel
theorem dX4_hasMarksEnough_13 : decode cX4_hasMarksEnough 13 = .ok (.if_icmp .ne 24, 3) := by decide +kernel
theorem dX4_hasMarksEnough_16 : decode cX4_hasMarksEnough 16 = .ok (.aload_n 0, 1) := by decide +kernel
theorem dX4_hasMarksEnough_17 : decode cX4_hasMarksEnough 17 = .ok (.aload_n 0, 1) := by decide +kernel
theorem dX4_hasMarksEnough_18 : decode cX4_hasMarksEnough 18 = .ok (.getfield 17, 3) := by decide +kernel
theorem dX4_hasMarksEnough_21 : decode cX4_hasMarksEnough 21 = .ok (.iload_n 1, 1) := by decide +kernel
theorem dX4_hasMarksEnough_22 : decode cX4_hasMarksEnough 22 = .ok (.aaload, 1) := by decide +kernel
theorem dX4_hasMarksEnough_23 : decode cX4_hasMarksEnough 23 = .ok (.getfield 170, 3) := by decide +kernel
theorem dX4_hasMarksEnough_26 : decode cX4_hasMarksEnough 26 = .ok (.invokevirtual 446, 3) := by decide +kernel
theorem dX4_hasMarksEnough_29 : decode cX4_hasMarksEnough 29 = .ok (.iconst 1, 1) := by decide +kernel
theorem dX4_hasMarksEnough_30 : decode cX4_hasMarksEnough 30 = .ok (.if_icmp .ne 7, 3) := by decide +kernel
theorem dX4_hasMarksEnough_33 : decode cX4_hasMarksEnough 33 = .ok (.iconst 1, 1) := by decide +kernel
theorem dX4_hasMarksEnough_34 : decode cX4_hasMarksEnough 34 = .ok (.goto 4, 3) := by decide +kernel
theorem dX4_hasMarksEnough_37 : decode cX4_hasMarksEnough 37 = .ok (.iconst 0, 1) := by decide +kernel
theorem dX4_hasMarksEnough_38 : decode cX4_hasMarksEnough 38 = .ok (.ireturn, 1) := by decide +kernel
theorem dX4_fillLongList_0 : decode cX4_fillLongList 0 = .ok (.aload_n 0, 1) := by decide +kernel
theorem dX4_fillLongList_1 : decode cX4_fillLongList 1 = .ok (.invokevirtual 449, 3) := by decide +kernel
theorem dX4_fillLongList_4 : decode cX4_fillLongList 4 = .ok (.istore_n 2, 1) := by decide +kernel
theorem dX4_fillLongList_5 : decode cX4_fillLongList 5 = .ok (.iconst 0, 1) := by decide +kernel
theorem dX4_fillLongList_6 : decode cX4_fillLongList 6 = .ok (.istore_n 3, 1) := by decide +kernel
theorem dX4_fillLongList_7 : decode cX4_fillLongList 7 = .ok (.iload_n 3, 1) := by decide +kernel
theorem dX4_fillLongList_8 : decode cX4_fillLongList 8 = .ok (.bipush 16, 2) := by decide +kernel
theorem dX4_fillLongList_10 : decode cX4_fillLongList 10 = .ok (.if_icmp .ge 80, 3) := by decide +kernel
theorem dX4_fillLongList_13 : decode cX4_fillLongList 13 = .ok (.aload_n 0, 1) := by decide +kernel
theorem dX4_fillLongList_14 : decode cX4_fillLongList 14 = .ok (.getfield 220, 3) := by decide +kernel
theorem dX4_fillLongList_17 : decode cX4_fillLongList 17 = .ok (.invokestatic 124, 3) := by decide +kernel
theorem dX4_fillLongList_20 : decode cX4_fillLongList 20 = .ok (.iload_n 1, 1) := by decide +kernel
theorem dX4_fillLongList_21 : decode cX4_fillLongList 21 = .ok (.if_icmp .ge 69, 3) := by decide +kernel
theorem dX4_fillLongList_24 : decode cX4_fillLongList 24 = .ok (.aload_n 0, 1) := by decide +kernel
theorem dX4_fillLongList_25 : decode cX4_fillLongList 25 = .ok (.iload_n 2, 1) := by decide +kernel
theorem dX4_fillLongList_26 : decode cX4_fillLongList 26 = .ok (.invokevirtual 452, 3) := by decide +kernel
theorem dX4_fillLongList_29 : decode cX4_fillLongList 29 = .ok (.istore 4, 2) := by decide +kernel
theorem dX4_fillLongList_31 : decode cX4_fillLongList 31 = .ok (.iload 4, 2) := by decide +kernel
theorem dX4_fillLongList_33 : decode cX4_fillLongList 33 = .ok (.iconst (-1), 1) := by decide +kernel
theorem dX4_fillLongList_34 : decode cX4_fillLongList 34 = .ok (.if_icmp .ne 4, 3) := by decide +kernel
theorem dX4_fillLongList_37 : decode cX4_fillLongList 37 = .ok (.return_, 1) := by decide +kernel
theorem dX4_fillLongList_38 : decode cX4_fillLongList 38 = .ok (.iload_n 2, 1) := by decide +kernel
theorem dX4_fillLongList_39 : decode cX4_fillLongList 39 = .ok (.iload 4, 2) := by decide +kernel
theorem dX4_fillLongList_41 : decode cX4_fillLongList 41 = .ok (.invokestatic 120, 3) := by decide +kernel
theorem dX4_fillLongList_44 : decode cX4_fillLongList 44 = .ok (.iconst (-1), 1) := by decide +kernel
theorem dX4_fillLongList_45 : decode cX4_fillLongList 45 = .ok (.ixor, 1) := by decide +kernel
theorem dX4_fillLongList_46 : decode cX4_fillLongList 46 = .ok (.iand, 1) := by decide +kernel
theorem dX4_fillLongList_47 : decode cX4_fillLongList 47 = .ok (.istore_n 2, 1) := by decide +kernel
theorem dX4_fillLongList_48 : decode cX4_fillLongList 48 = .ok (.aload_n 0, 1) := by decide +kernel
theorem dX4_fillLongList_49 : decode cX4_fillLongList 49 = .ok (.aload_n 0, 1) := by decide +kernel
theorem dX4_fillLongList_50 : decode cX4_fillLongList 50 = .ok (.getfield 17, 3) := by decide +kernel
theorem dX4_fillLongList_53 : decode cX4_fillLongList 53 = .ok (.iload 4, 2) := by decide +kernel
theorem dX4_fillLongList_55 : decode cX4_fillLongList 55 = .ok (.aaload, 1) := by decide +kernel
theorem dX4_fillLongList_56 : decode cX4_fillLongList 56 = .ok (.getfield 151, 3) := by decide +kernel
theorem dX4_fillLongList_59 : decode cX4_fillLongList 59 = .ok (.aload_n 0, 1) := by decide +kernel
theorem dX4_fillLongList_60 : decode cX4_fillLongList 60 = .ok (.getfield 220, 3) := by decide +kernel
theorem dX4_fillLongList_63 : decode cX4_fillLongList 63 = .ok (.invokevirtual 299, 3) := by decide +kernel
theorem dX4_fillLongList_66 : decode cX4_fillLongList 66 = .ok (.iconst 2, 1) := by decide +kernel
theorem dX4_fillLongList_67 : decode cX4_fillLongList 67 = .ok (.if_icmp .ge 17, 3) := by decide +kernel
theorem dX4_fillLongList_70 : decode cX4_fillLongList 70 = .ok (.aload_n 0, 1) := by decide +kernel
theorem dX4_fillLongList_71 : decode cX4_fillLongList 71 = .ok (.dup, 1) := by decide +kernel
theorem dX4_fillLongList_72 : decode cX4_fillLongList 72 = .ok (.getfield 220, 3) := by decide +kernel
theorem dX4_fillLongList_75 : decode cX4_fillLongList 75 = .ok (.iload 4, 2) := by decide +kernel
theorem dX4_fillLongList_77 : decode cX4_fillLongList 77 = .ok (.invokestatic 120, 3) := by decide +kernel
theorem dX4_fillLongList_80 : decode cX4_fillLongList 80 = .ok (.ior, 1) := by decide +kernel
theorem dX4_fillLongList_81 : decode cX4_fillLongList 81 = .ok (.putfield 220, 3) := by decide +kernel
theorem dX4_fillLongList_84 : decode cX4_fillLongList 84 = .ok (.iinc 3 1, 3) := by decide +kernel
theorem dX4_fillLongList_87 : decode cX4_fillLongList 87 = .ok (.goto (-80), 3) := by decide +kernel
theorem dX4_fillLongList_90 : decode cX4_fillLongList 90 = .ok (.return_, 1) := by decide +kernel
theorem dX4_longListable_0 : decode cX4_longListable 0 = .ok (.iconst 0, 1) := by decide +kernel
theorem dX4_longListable_1 : decode cX4_longListable 1 = .ok (.istore_n 1, 1) := by decide +kernel
theorem dX4_longListable_2 : decode cX4_longListable 2 = .ok (.iconst 0, 1) := by decide +kernel
theorem dX4_longListable_3 : decode cX4_longListable 3 = .ok (.istore_n 2, 1) := by decide +kernel
theorem dX4_longListable_4 : decode cX4_longListable 4 = .ok (.iload_n 2, 1) := by decide +kernel
theorem dX4_longListable_5 : decode cX4_longListable 5 = .ok (.aload_n 0, 1) := by decide +kernel
theorem dX4_longListable_6 : decode cX4_longListable 6 = .ok (.getfield 85, 3) := by decide +kernel
theorem dX4_longListable_9 : decode cX4_longListable 9 = .ok (.if_icmp .ge 32, 3) := by decide +kernel
theorem dX4_longListable_12 : decode cX4_longListable 12 = .ok (.aload_n 0, 1) := by decide +kernel
theorem dX4_longListable_13 : decode cX4_longListable 13 = .ok (.iload_n 2, 1) := by decide +kernel
theorem dX4_longListable_14 : decode cX4_longListable 14 = .ok (.invokevirtual 143, 3) := by decide +kernel
theorem dX4_longListable_17 : decode cX4_longListable 17 = .ok (.ifCond .eq 18, 3) := by decide +kernel
theorem dX4_longListable_20 : decode cX4_longListable 20 = .ok (.aload_n 0, 1) := by decide +kernel
theorem dX4_longListable_21 : decode cX4_longListable 21 = .ok (.iload_n 2, 1) := by decide +kernel
theorem dX4_longListable_22 : decode cX4_longListable 22 = .ok (.invokevirtual 455, 3) := by decide +kernel
theorem dX4_longListable_25 : decode cX4_longListable 25 = .ok (.ifCond .eq 10, 3) := by decide +kernel
theorem dX4_longListable_28 : decode cX4_longListable 28 = .ok (.iload_n 1, 1) := by decide +kernel
theorem dX4_longListable_29 : decode cX4_longListable 29 = .ok (.iload_n 2, 1) := by decide +kernel
theorem dX4_longListable_30 : decode cX4_longListable 30 = .ok (.invokestatic 120, 3) := by decide +kernel
theorem dX4_longListable_33 : decode cX4_longListable 33 = .ok (.ior, 1) := by decide +kernel
theorem dX4_longListable_34 : decode cX4_longListable 34 = .ok (.istore_n 1, 1) := by decide +kernel
theorem dX4_longListable_35 : decode cX4_longListable 35 = .ok (.iinc 2 1, 3) := by decide +kernel
theorem dX4_longListable_38 : decode cX4_longListable 38 = .ok (.goto (-34), 3) := by decide +kernel
theorem dX4_longListable_41 : decode cX4_longListable 41 = .ok (.iload_n 1, 1) := by decide +kernel
theorem dX4_longListable_42 : decode cX4_longListable 42 = .ok (.ireturn, 1) := by decide +kernel
theorem dX4_fillShortList_0 : decode cX4_fillShortList 0 = .ok (.iconst 0, 1) := by decide +kernel
theorem dX4_fillShortList_1 : decode cX4_fillShortList 1 = .ok (.istore_n 2, 1) := by decide +kernel
theorem dX4_fillShortList_2 : decode cX4_fillShortList 2 = .ok (.iload_n 2, 1) := by decide +kernel
theorem dX4_fillShortList_3 : decode cX4_fillShortList 3 = .ok (.iload_n 1, 1) := by decide +kernel
theorem dX4_fillShortList_4 : decode cX4_fillShortList 4 = .ok (.if_icmp .ge 44, 3) := by decide +kernel
theorem dX4_fillShortList_7 : decode cX4_fillShortList 7 = .ok (.aload_n 0, 1) := by decide +kernel
theorem dX4_fillShortList_8 : decode cX4_fillShortList 8 = .ok (.aload_n 0, 1) := by decide +kernel
theorem dX4_fillShortList_9 : decode cX4_fillShortList 9 = .ok (.getfield 220, 3) := by decide +kernel
theorem dX4_fillShortList_12 : decode cX4_fillShortList 12 = .ok (.aload_n 0, 1) := by decide +kernel
theorem dX4_fillShortList_13 : decode cX4_fillShortList 13 = .ok (.getfield 246, 3) := by decide +kernel
theorem dX4_fillShortList_16 : decode cX4_fillShortList 16 = .ok (.iconst (-1), 1) := by decide +kernel
theorem dX4_fillShortList_17 : decode cX4_fillShortList 17 = .ok (.ixor, 1) := by decide +kernel
theorem dX4_fillShortList_18 : decode cX4_fillShortList 18 = .ok (.iand, 1) := by decide +kernel
theorem dX4_fillShortList_19 : decode cX4_fillShortList 19 = .ok (.invokevirtual 452, 3) := by decide +kernel
theorem dX4_fillShortList_22 : decode cX4_fillShortList 22 = .ok (.istore_n 3, 1) := by decide +kernel
