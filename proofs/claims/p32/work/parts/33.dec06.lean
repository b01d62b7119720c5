theorem dX4_fillShortList_23 : decode cX4_fillShortList 23 = .ok (.iload_n 3, 1) := by decide +kernel
theorem dX4_fillShortList_24 : decode cX4_fillShortList 24 = .ok (.iconst (-1), 1) := by decide +kernel
theorem dX4_fillShortList_25 : decode cX4_fillShortList 25 = .ok (.if_icmp .ne 4, 3) := by decide +kernel
theorem dX4_fillShortList_28 : decode cX4_fillShortList 28 = .ok (.return_, 1) := by decide +kernel
theorem dX4_fillShortList_29 : decode cX4_fillShortList 29 = .ok (.aload_n 0, 1) := by decide +kernel
theorem dX4_fillShortList_30 : decode cX4_fillShortList 30 = .ok (.dup, 1) := by decide +kernel
theorem dX4_fillShortList_31 : decode cX4_fillShortList 31 = .ok (.getfield 246, 3) := by decide +kernel
theorem dX4_fillShortList_34 : decode cX4_fillShortList 34 = .ok (.iload_n 3, 1) := by decide +kernel
theorem dX4_fillShortList_35 : decode cX4_fillShortList 35 = .ok (.invokestatic 120, 3) := by decide +kernel
theorem dX4_fillShortList_38 : decode cX4_fillShortList 38 = .ok (.ior, 1) := by decide +kernel
theorem dX4_fillShortList_39 : decode cX4_fillShortList 39 = .ok (.putfield 246, 3) := by decide +kernel
theorem dX4_fillShortList_42 : decode cX4_fillShortList 42 = .ok (.iinc 2 1, 3) := by decide +kernel
theorem dX4_fillShortList_45 : decode cX4_fillShortList 45 = .ok (.goto (-43), 3) := by decide +kernel
theorem dX4_fillShortList_48 : decode cX4_fillShortList 48 = .ok (.return_, 1) := by decide +kernel
theorem dX4_bestOf_0 : decode cX4_bestOf 0 = .ok (.iconst (-1), 1) := by decide +kernel
theorem dX4_bestOf_1 : decode cX4_bestOf 1 = .ok (.istore_n 2, 1) := by decide +kernel
theorem dX4_bestOf_2 : decode cX4_bestOf 2 = .ok (.iconst 0, 1) := by decide +kernel
theorem dX4_bestOf_3 : decode cX4_bestOf 3 = .ok (.istore_n 3, 1) := by decide +kernel
theorem dX4_bestOf_4 : decode cX4_bestOf 4 = .ok (.iload_n 3, 1) := by decide +kernel
theorem dX4_bestOf_5 : decode cX4_bestOf 5 = .ok (.aload_n 0, 1) := by decide +kernel
theorem dX4_bestOf_6 : decode cX4_bestOf 6 = .ok (.getfield 85, 3) := by decide +kernel
theorem dX4_bestOf_9 : decode cX4_bestOf 9 = .ok (.if_icmp .ge 33, 3) := by decide +kernel
theorem dX4_bestOf_12 : decode cX4_bestOf 12 = .ok (.iload_n 1, 1) := by decide +kernel
theorem dX4_bestOf_13 : decode cX4_bestOf 13 = .ok (.iload_n 3, 1) := by decide +kernel
theorem dX4_bestOf_14 : decode cX4_bestOf 14 = .ok (.invokestatic 223, 3) := by decide +kernel
theorem dX4_bestOf_17 : decode cX4_bestOf 17 = .ok (.ifCond .eq 19, 3) := by decide +kernel
theorem dX4_bestOf_20 : decode cX4_bestOf 20 = .ok (.iload_n 2, 1) := by decide +kernel
theorem dX4_bestOf_21 : decode cX4_bestOf 21 = .ok (.iconst (-1), 1) := by decide +kernel
theorem dX4_bestOf_22 : decode cX4_bestOf 22 = .ok (.if_icmp .eq 12, 3) := by decide +kernel
theorem dX4_bestOf_25 : decode cX4_bestOf 25 = .ok (.aload_n 0, 1) := by decide +kernel
theorem dX4_bestOf_26 : decode cX4_bestOf 26 = .ok (.iload_n 3, 1) := by decide +kernel
theorem dX4_bestOf_27 : decode cX4_bestOf 27 = .ok (.iload_n 2, 1) := by decide +kernel
theorem dX4_bestOf_28 : decode cX4_bestOf 28 = .ok (.invokevirtual 458, 3) := by decide +kernel
theorem dX4_bestOf_31 : decode cX4_bestOf 31 = .ok (.ifCond .eq 5, 3) := by decide +kernel
theorem dX4_bestOf_34 : decode cX4_bestOf 34 = .ok (.iload_n 3, 1) := by decide +kernel
theorem dX4_bestOf_35 : decode cX4_bestOf 35 = .ok (.istore_n 2, 1) := by decide +kernel
theorem dX4_bestOf_36 : decode cX4_bestOf 36 = .ok (.iinc 3 1, 3) := by decide +kernel
theorem dX4_bestOf_39 : decode cX4_bestOf 39 = .ok (.goto (-35), 3) := by decide +kernel
theorem dX4_bestOf_42 : decode cX4_bestOf 42 = .ok (.iload_n 2, 1) := by decide +kernel
theorem dX4_bestOf_43 : decode cX4_bestOf 43 = .ok (.ireturn, 1) := by decide +kernel
theorem dX4_isBetter_0 : decode cX4_isBetter 0 = .ok (.aload_n 0, 1) := by decide +kernel
theorem dX4_isBetter_1 : decode cX4_isBetter 1 = .ok (.iload_n 1, 1) := by decide +kernel
theorem dX4_isBetter_2 : decode cX4_isBetter 2 = .ok (.invokevirtual 322, 3) := by decide +kernel
theorem dX4_isBetter_5 : decode cX4_isBetter 5 = .ok (.aload_n 0, 1) := by decide +kernel
theorem dX4_isBetter_6 : decode cX4_isBetter 6 = .ok (.iload_n 2, 1) := by decide +kernel
theorem dX4_isBetter_7 : decode cX4_isBetter 7 = .ok (.invokevirtual 322, 3) := by decide +kernel
theorem dX4_isBetter_10 : decode cX4_isBetter 10 = .ok (.invokestatic 461, 3) := by decide +kernel
theorem dX4_isBetter_13 : decode cX4_isBetter 13 = .ok (.istore_n 3, 1) := by decide +kernel
theorem dX4_isBetter_14 : decode cX4_isBetter 14 = .ok (.iload_n 3, 1) := by decide +kernel
theorem dX4_isBetter_15 : decode cX4_isBetter 15 = .ok (.ifCond .eq 13, 3) := by decide +kernel
theorem dX4_isBetter_18 : decode cX4_isBetter 18 = .ok (.iload_n 3, 1) := by decide +kernel
theorem dX4_isBetter_19 : decode cX4_isBetter 19 = .ok (.ifCond .le 7, 3) := by decide +kernel
theorem dX4_isBetter_22 : decode cX4_isBetter 22 = .ok (.iconst 1, 1) := by decide +kernel
theorem dX4_isBetter_23 : decode cX4_isBetter 23 = .ok (.goto 4, 3) := by decide +kernel
theorem dX4_isBetter_26 : decode cX4_isBetter 26 = .ok (.iconst 0, 1) := by decide +kernel
theorem dX4_isBetter_27 : decode cX4_isBetter 27 = .ok (.ireturn, 1) := by decide +kernel
theorem dX4_isBetter_28 : decode cX4_isBetter 28 = .ok (.aload_n 0, 1) := by decide +kernel
theorem dX4_isBetter_29 : decode cX4_isBetter 29 = .ok (.iload_n 1, 1) := by decide +kernel
theorem dX4_isBetter_30 : decode cX4_isBetter 30 = .ok (.invokevirtual 464, 3) := by decide +kernel
theorem dX4_isBetter_33 : decode cX4_isBetter 33 = .ok (.aload_n 0, 1) := by decide +kernel
theorem dX4_isBetter_34 : decode cX4_isBetter 34 = .ok (.iload_n 2, 1) := by decide +kernel
theorem dX4_isBetter_35 : decode cX4_isBetter 35 = .ok (.invokevirtual 464, 3) := by decide +kernel
theorem dX4_isBetter_38 : decode cX4_isBetter 38 = .ok (.invokestatic 461, 3) := by decide +kernel
theorem dX4_isBetter_41 : decode cX4_isBetter 41 = .ok (.istore 4, 2) := by decide +kernel
theorem dX4_isBetter_43 : decode cX4_isBetter 43 = .ok (.iload 4, 2) := by decide +kernel
theorem dX4_isBetter_45 : decode cX4_isBetter 45 = .ok (.ifCond .eq 14, 3) := by decide +kernel
theorem dX4_isBetter_48 : decode cX4_isBetter 48 = .ok (.iload 4, 2) := by decide +kernel
theorem dX4_isBetter_50 : decode cX4_isBetter 50 = .ok (.ifCond .le 7, 3) := by decide +kernel
theorem dX4_isBetter_53 : decode cX4_isBetter 53 = .ok (.iconst 1, 1) := by decide +kernel
theorem dX4_isBetter_54 : decode cX4_isBetter 54 = .ok (.goto 4, 3) := by decide +kernel
theorem dX4_isBetter_57 : decode cX4_isBetter 57 = .ok (.iconst 0, 1) := by decide +kernel
theorem dX4_isBetter_58 : decode cX4_isBetter 58 = .ok (.ireturn, 1) := by decide +kernel
theorem dX4_isBetter_59 : decode cX4_isBetter 59 = .ok (.aload_n 0, 1) := by decide +kernel
theorem dX4_isBetter_60 : decode cX4_isBetter 60 = .ok (.iload_n 1, 1) := by decide +kernel
theorem dX4_isBetter_61 : decode cX4_isBetter 61 = .ok (.invokevirtual 316, 3) := by decide +kernel
theorem dX4_isBetter_64 : decode cX4_isBetter 64 = .ok (.aload_n 0, 1) := by decide +kernel
theorem dX4_isBetter_65 : decode cX4_isBetter 65 = .ok (.iload_n 2, 1) := by decide +kernel
theorem dX4_isBetter_66 : decode cX4_isBetter 66 = .ok (.invokevirtual 316, 3) := by decide +kernel
theorem dX4_isBetter_69 : decode cX4_isBetter 69 = .ok (.if_icmp .le 7, 3) := by decide +kernel
theorem dX4_isBetter_72 : decode cX4_isBetter 72 = .ok (.iconst 1, 1) := by decide +kernel
theorem dX4_isBetter_73 : decode cX4_isBetter 73 = .ok (.goto 4, 3) := by decide +kernel
theorem dX4_isBetter_76 : decode cX4_isBetter 76 = .ok (.iconst 0, 1) := by decide +kernel
theorem dX4_isBetter_77 : decode cX4_isBetter 77 = .ok (.ireturn, 1) := by decide +kernel
theorem dX4_isOrder_0 : decode cX4_isOrder 0 = .ok (.aload_n 0, 1) := by decide +kernel
theorem dX4_isOrder_1 : decode cX4_isOrder 1 = .ok (.getfield 246, 3) := by decide +kernel
theorem dX4_isOrder_4 : decode cX4_isOrder 4 = .ok (.invokestatic 124, 3) := by decide +kernel
theorem dX4_isOrder_7 : decode cX4_isOrder 7 = .ok (.istore_n 2, 1) := by decide +kernel
theorem dX4_isOrder_8 : decode cX4_isOrder 8 = .ok (.iconst 0, 1) := by decide +kernel
theorem dX4_isOrder_9 : decode cX4_isOrder 9 = .ok (.istore_n 3, 1) := by decide +kernel
theorem dX4_isOrder_10 : decode cX4_isOrder 10 = .ok (.iload_n 1, 1) := by decide +kernel
theorem dX4_isOrder_11 : decode cX4_isOrder 11 = .ok (.istore 4, 2) := by decide +kernel
theorem dX4_isOrder_13 : decode cX4_isOrder 13 = .ok (.iconst 0, 1) := by decide +kernel
theorem dX4_isOrder_14 : decode cX4_isOrder 14 = .ok (.istore 5, 2) := by decide +kernel
theorem dX4_isOrder_16 : decode cX4_isOrder 16 = .ok (.iload 5, 2) := by decide +kernel
theorem dX4_isOrder_18 : decode cX4_isOrder 18 = .ok (.iload_n 2, 1) := by decide +kernel
theorem dX4_isOrder_19 : decode cX4_isOrder 19 = .ok (.if_icmp .ge 52, 3) := by decide +kernel
theorem dX4_isOrder_22 : decode cX4_isOrder 22 = .ok (.iload 4, 2) := by decide +kernel
theorem dX4_isOrder_24 : decode cX4_isOrder 24 = .ok (.bipush 10, 2) := by decide +kernel
theorem dX4_isOrder_26 : decode cX4_isOrder 26 = .ok (.irem, 1) := by decide +kernel
theorem dX4_isOrder_27 : decode cX4_isOrder 27 = .ok (.istore 6, 2) := by decide +kernel
theorem dX4_isOrder_29 : decode cX4_isOrder 29 = .ok (.iload 6, 2) := by decide +kernel
theorem dX4_isOrder_31 : decode cX4_isOrder 31 = .ok (.iconst 1, 1) := by decide +kernel
theorem dX4_isOrder_32 : decode cX4_isOrder 32 = .ok (.iload_n 2, 1) := by decide +kernel
theorem dX4_isOrder_33 : decode cX4_isOrder 33 = .ok (.invokestatic 76, 3) := by decide +kernel
theorem dX4_isOrder_36 : decode cX4_isOrder 36 = .ok (.ifCond .eq 12, 3) := by decide +kernel
theorem dX4_isOrder_39 : decode cX4_isOrder 39 = .ok (.iload_n 3, 1) := by decide +kernel
theorem dX4_isOrder_40 : decode cX4_isOrder 40 = .ok (.iload 6, 2) := by decide +kernel
theorem dX4_isOrder_42 : decode cX4_isOrder 42 = .ok (.invokestatic 223, 3) := by decide +kernel
theorem dX4_isOrder_45 : decode cX4_isOrder 45 = .ok (.ifCond .eq 5, 3) := by decide +kernel
theorem dX4_isOrder_48 : decode cX4_isOrder 48 = .ok (.iconst 0, 1) := by decide +kernel
theorem dX4_isOrder_49 : decode cX4_isOrder 49 = .ok (.ireturn, 1) := by decide +kernel
theorem dX4_isOrder_50 : decode cX4_isOrder 50 = .ok (.iload_n 3, 1) := by decide +kernel
theorem dX4_isOrder_51 : decode cX4_isOrder 51 = .ok (.iload 6, 2) := by decide +kernel
theorem dX4_isOrder_53 : decode cX4_isOrder 53 = .ok (.invokestatic 120, 3) := by decide +kernel
theorem dX4_isOrder_56 : decode cX4_isOrder 56 = .ok (.ior, 1) := by decide +kernel
theorem dX4_isOrder_57 : decode cX4_isOrder 57 = .ok (.istore_n 3, 1) := by decide +kernel
theorem dX4_isOrder_58 : decode cX4_isOrder 58 = .ok (.iload 4, 2) := by decide +kernel
theorem dX4_isOrder_60 : decode cX4_isOrder 60 = .ok (.bipush 10, 2) := by decide +kernel
theorem dX4_isOrder_62 : decode cX4_isOrder 62 = .ok (.idiv, 1) := by decide +kernel
theorem dX4_isOrder_63 : decode cX4_isOrder 63 = .ok (.istore 4, 2) := by decide +kernel
theorem dX4_isOrder_65 : decode cX4_isOrder 65 = .ok (.iinc 5 1, 3) := by decide +kernel
theorem dX4_isOrder_68 : decode cX4_isOrder 68 = .ok (.goto (-52), 3) := by decide +kernel
theorem dX4_isOrder_71 : decode cX4_isOrder 71 = .ok (.iload_n 2, 1) := by decide +kernel
theorem dX4_isOrder_72 : decode cX4_isOrder 72 = .ok (.ifCond .le 12, 3) := by decide +kernel
theorem dX4_isOrder_75 : decode cX4_isOrder 75 = .ok (.iload 4, 2) := by decide +kernel
theorem dX4_isOrder_77 : decode cX4_isOrder 77 = .ok (.ifCond .ne 7, 3) := by decide +kernel
theorem dX4_isOrder_80 : decode cX4_isOrder 80 = .ok (.iconst 1, 1) := by decide +kernel
theorem dX4_isOrder_81 : decode cX4_isOrder 81 = .ok (.goto 4, 3) := by decide +kernel
theorem dX4_isOrder_84 : decode cX4_isOrder 84 = .ok (.iconst 0, 1) := by decide +kernel
theorem dX4_isOrder_85 : decode cX4_isOrder 85 = .ok (.ireturn, 1) := by decide +kernel
theorem dX4_takeOrder_0 : decode cX4_takeOrder 0 = .ok (.iconst 5, 1) := by decide +kernel
theorem dX4_takeOrder_1 : decode cX4_takeOrder 1 = .ok (.aload_n 0, 1) := by decide +kernel
theorem dX4_takeOrder_2 : decode cX4_takeOrder 2 = .ok (.getfield 246, 3) := by decide +kernel
theorem dX4_takeOrder_5 : decode cX4_takeOrder 5 = .ok (.invokestatic 124, 3) := by decide +kernel
theorem dX4_takeOrder_8 : decode cX4_takeOrder 8 = .ok (.invokestatic 190, 3) := by decide +kernel
theorem dX4_takeOrder_11 : decode cX4_takeOrder 11 = .ok (.istore_n 3, 1) := by decide +kernel
theorem dX4_takeOrder_12 : decode cX4_takeOrder 12 = .ok (.iload_n 2, 1) := by decide +kernel
theorem dX4_takeOrder_13 : decode cX4_takeOrder 13 = .ok (.istore 4, 2) := by decide +kernel
theorem dX4_takeOrder_15 : decode cX4_takeOrder 15 = .ok (.iload_n 3, 1) := by decide +kernel
theorem dX4_takeOrder_16 : decode cX4_takeOrder 16 = .ok (.iconst 1, 1) := by decide +kernel
theorem dX4_takeOrder_17 : decode cX4_takeOrder 17 = .ok (.isub, 1) := by decide +kernel
theorem dX4_takeOrder_18 : decode cX4_takeOrder 18 = .ok (.istore 5, 2) := by decide +kernel
theorem dX4_takeOrder_20 : decode cX4_takeOrder 20 = .ok (.iload 5, 2) := by decide +kernel
theorem dX4_takeOrder_22 : decode cX4_takeOrder 22 = .ok (.ifCond .lt 32, 3) := by decide +kernel
theorem dX4_takeOrder_25 : decode cX4_takeOrder 25 = .ok (.aload_n 1, 1) := by decide +kernel
theorem dX4_takeOrder_26 : decode cX4_takeOrder 26 = .ok (.getfield 467, 3) := by decide +kernel
theorem dX4_takeOrder_29 : decode cX4_takeOrder 29 = .ok (.iload 5, 2) := by decide +kernel
theorem dX4_takeOrder_31 : decode cX4_takeOrder 31 = .ok (.aload_n 0, 1) := by decide +kernel
theorem dX4_takeOrder_32 : decode cX4_takeOrder 32 = .ok (.iload 4, 2) := by decide +kernel
theorem dX4_takeOrder_34 : decode cX4_takeOrder 34 = .ok (.bipush 10, 2) := by decide +kernel
theorem dX4_takeOrder_36 : decode cX4_takeOrder 36 = .ok (.irem, 1) := by decide +kernel
theorem dX4_takeOrder_37 : decode cX4_takeOrder 37 = .ok (.invokevirtual 470, 3) := by decide +kernel
theorem dX4_takeOrder_40 : decode cX4_takeOrder 40 = .ok (.iastore, 1) := by decide +kernel
theorem dX4_takeOrder_41 : decode cX4_takeOrder 41 = .ok (.iload 4, 2) := by decide +kernel
theorem dX4_takeOrder_43 : decode cX4_takeOrder 43 = .ok (.bipush 10, 2) := by decide +kernel
theorem dX4_takeOrder_45 : decode cX4_takeOrder 45 = .ok (.idiv, 1) := by decide +kernel
theorem dX4_takeOrder_46 : decode cX4_takeOrder 46 = .ok (.istore 4, 2) := by decide +kernel
theorem dX4_takeOrder_48 : decode cX4_takeOrder 48 = .ok (.iinc 5 (-1), 3) := by decide +kernel
theorem dX4_takeOrder_51 : decode cX4_takeOrder 51 = .ok (.goto (-31), 3) := by decide +kernel
theorem dX4_takeOrder_54 : decode cX4_takeOrder 54 = .ok (.aload_n 1, 1) := by decide +kernel
theorem dX4_takeOrder_55 : decode cX4_takeOrder 55 = .ok (.iload_n 3, 1) := by decide +kernel
theorem dX4_takeOrder_56 : decode cX4_takeOrder 56 = .ok (.putfield 473, 3) := by decide +kernel
theorem dX4_takeOrder_59 : decode cX4_takeOrder 59 = .ok (.return_, 1) := by decide +kernel
theorem dX4_bookAtPlace_0 : decode cX4_bookAtPlace 0 = .ok (.iconst 0, 1) := by decide +kernel
theorem dX4_bookAtPlace_1 : decode cX4_bookAtPlace 1 = .ok (.istore_n 2, 1) := by decide +kernel
theorem dX4_bookAtPlace_2 : decode cX4_bookAtPlace 2 = .ok (.iconst 0, 1) := by decide +kernel
theorem dX4_bookAtPlace_3 : decode cX4_bookAtPlace 3 = .ok (.istore_n 3, 1) := by decide +kernel
theorem dX4_bookAtPlace_4 : decode cX4_bookAtPlace 4 = .ok (.iload_n 3, 1) := by decide +kernel
theorem dX4_bookAtPlace_5 : decode cX4_bookAtPlace 5 = .ok (.aload_n 0, 1) := by decide +kernel
theorem dX4_bookAtPlace_6 : decode cX4_bookAtPlace 6 = .ok (.getfield 85, 3) := by decide +kernel
theorem dX4_bookAtPlace_9 : decode cX4_bookAtPlace 9 = .ok (.if_icmp .ge 30, 3) := by decide +kernel
theorem dX4_bookAtPlace_12 : decode cX4_bookAtPlace 12 = .ok (.aload_n 0, 1) := by decide +kernel
theorem dX4_bookAtPlace_13 : decode cX4_bookAtPlace 13 = .ok (.getfield 246, 3) := by decide +kernel
theorem dX4_bookAtPlace_16 : decode cX4_bookAtPlace 16 = .ok (.iload_n 3, 1) := by decide +kernel
theorem dX4_bookAtPlace_17 : decode cX4_bookAtPlace 17 = .ok (.invokestatic 223, 3) := by decide +kernel
theorem dX4_bookAtPlace_20 : decode cX4_bookAtPlace 20 = .ok (.ifCond .eq 13, 3) := by decide +kernel
theorem dX4_bookAtPlace_23 : decode cX4_bookAtPlace 23 = .ok (.iinc 2 1, 3) := by decide +kernel
theorem dX4_bookAtPlace_26 : decode cX4_bookAtPlace 26 = .ok (.iload_n 2, 1) := by decide +kernel
theorem dX4_bookAtPlace_27 : decode cX4_bookAtPlace 27 = .ok (.iload_n 1, 1) := by decide +kernel
theorem dX4_bookAtPlace_28 : decode cX4_bookAtPlace 28 = .ok (.if_icmp .ne 5, 3) := by decide +kernel
theorem dX4_bookAtPlace_31 : decode cX4_bookAtPlace 31 = .ok (.iload_n 3, 1) := by decide +kernel
theorem dX4_bookAtPlace_32 : decode cX4_bookAtPlace 32 = .ok (.ireturn, 1) := by decide +kernel
theorem dX4_bookAtPlace_33 : decode cX4_bookAtPlace 33 = .ok (.iinc 3 1, 3) := by decide +kernel
theorem dX4_bookAtPlace_36 : decode cX4_bookAtPlace 36 = .ok (.goto (-32), 3) := by decide +kernel
theorem dX4_bookAtPlace_39 : decode cX4_bookAtPlace 39 = .ok (.iconst (-1), 1) := by decide +kernel
theorem dX4_bookAtPlace_40 : decode cX4_bookAtPlace 40 = .ok (.ireturn, 1) := by decide +kernel
theorem dX4_orderCount_0 : decode cX4_orderCount 0 = .ok (.iconst 0, 1) := by decide +kernel
theorem dX4_orderCount_1 : decode cX4_orderCount 1 = .ok (.istore_n 1, 1) := by decide +kernel
theorem dX4_orderCount_2 : decode cX4_orderCount 2 = .ok (.iconst 0, 1) := by decide +kernel
theorem dX4_orderCount_3 : decode cX4_orderCount 3 = .ok (.istore_n 2, 1) := by decide +kernel
theorem dX4_orderCount_4 : decode cX4_orderCount 4 = .ok (.iload_n 2, 1) := by decide +kernel
theorem dX4_orderCount_5 : decode cX4_orderCount 5 = .ok (.aload_n 0, 1) := by decide +kernel
theorem dX4_orderCount_6 : decode cX4_orderCount 6 = .ok (.getfield 102, 3) := by decide +kernel
theorem dX4_orderCount_9 : decode cX4_orderCount 9 = .ok (.if_icmp .ge 24, 3) := by decide +kernel
theorem dX4_orderCount_12 : decode cX4_orderCount 12 = .ok (.aload_n 0, 1) := by decide +kernel
theorem dX4_orderCount_13 : decode cX4_orderCount 13 = .ok (.getfield 23, 3) := by decide +kernel
theorem dX4_orderCount_16 : decode cX4_orderCount 16 = .ok (.iload_n 2, 1) := by decide +kernel
theorem dX4_orderCount_17 : decode cX4_orderCount 17 = .ok (.aaload, 1) := by decide +kernel
theorem dX4_orderCount_18 : decode cX4_orderCount 18 = .ok (.invokevirtual 342, 3) := by decide +kernel
theorem dX4_orderCount_21 : decode cX4_orderCount 21 = .ok (.ifCond .eq 6, 3) := by decide +kernel
theorem dX4_orderCount_24 : decode cX4_orderCount 24 = .ok (.iinc 1 1, 3) := by decide +kernel
theorem dX4_orderCount_27 : decode cX4_orderCount 27 = .ok (.iinc 2 1, 3) := by decide +kernel
theorem dX4_orderCount_30 : decode cX4_orderCount 30 = .ok (.goto (-26), 3) := by decide +kernel
theorem dX4_orderCount_33 : decode cX4_orderCount 33 = .ok (.iload_n 1, 1) := by decide +kernel
theorem dX4_orderCount_34 : decode cX4_orderCount 34 = .ok (.ireturn, 1) := by decide +kernel
theorem dX4_openTo_0 : decode cX4_openTo 0 = .ok (.iconst 0, 1) := by decide +kernel
theorem dX4_openTo_1 : decode cX4_openTo 1 = .ok (.istore_n 2, 1) := by decide +kernel
theorem dX4_openTo_2 : decode cX4_openTo 2 = .ok (.iconst 0, 1) := by decide +kernel
theorem dX4_openTo_3 : decode cX4_openTo 3 = .ok (.istore_n 3, 1) := by decide +kernel
theorem dX4_openTo_4 : decode cX4_openTo 4 = .ok (.iload_n 3, 1) := by decide +kernel
theorem dX4_openTo_5 : decode cX4_openTo 5 = .ok (.aload_n 0, 1) := by decide +kernel
theorem dX4_openTo_6 : decode cX4_openTo 6 = .ok (.getfield 85, 3) := by decide +kernel
theorem dX4_openTo_9 : decode cX4_openTo 9 = .ok (.if_icmp .ge 32, 3) := by decide +kernel
theorem dX4_openTo_12 : decode cX4_openTo 12 = .ok (.aload_n 1, 1) := by decide +kernel
theorem dX4_openTo_13 : decode cX4_openTo 13 = .ok (.aload_n 0, 1) := by decide +kernel
theorem dX4_openTo_14 : decode cX4_openTo 14 = .ok (.getfield 17, 3) := by decide +kernel
theorem dX4_openTo_17 : decode cX4_openTo 17 = .ok (.iload_n 3, 1) := by decide +kernel
theorem dX4_openTo_18 : decode cX4_openTo 18 = .ok (.aaload, 1) := by decide +kernel
theorem dX4_openTo_19 : decode cX4_openTo 19 = .ok (.getfield 170, 3) := by decide +kernel
theorem dX4_openTo_22 : decode cX4_openTo 22 = .ok (.invokevirtual 173, 3) := by decide +kernel
theorem dX4_openTo_25 : decode cX4_openTo 25 = .ok (.ifCond .ne 10, 3) := by decide +kernel
theorem dX4_openTo_28 : decode cX4_openTo 28 = .ok (.iload_n 2, 1) := by decide +kernel
theorem dX4_openTo_29 : decode cX4_openTo 29 = .ok (.iload_n 3, 1) := by decide +kernel
theorem dX4_openTo_30 : decode cX4_openTo 30 = .ok (.invokestatic 120, 3) := by decide +kernel
theorem dX4_openTo_33 : decode cX4_openTo 33 = .ok (.ior, 1) := by decide +kernel
theorem dX4_openTo_34 : decode cX4_openTo 34 = .ok (.istore_n 2, 1) := by decide +kernel
theorem dX4_openTo_35 : decode cX4_openTo 35 = .ok (.iinc 3 1, 3) := by decide +kernel
theorem dX4_openTo_38 : decode cX4_openTo 38 = .ok (.goto (-34), 3) := by decide +kernel
theorem dX4_openTo_41 : decode cX4_openTo 41 = .ok (.iload_n 2, 1) := by decide +kernel
theorem dX4_openTo_42 : decode cX4_openTo 42 = .ok (.ireturn, 1) := by decide +kernel
theorem dX4_crown_0 : decode cX4_crown 0 = .ok (.aload_n 0, 1) := by decide +kernel
theorem dX4_crown_1 : decode cX4_crown 1 = .ok (.iload_n 1, 1) := by decide +kernel
theorem dX4_crown_2 : decode cX4_crown 2 = .ok (.putfield 41, 3) := by decide +kernel
theorem dX4_crown_5 : decode cX4_crown 5 = .ok (.iload_n 1, 1) := by decide +kernel
theorem dX4_crown_6 : decode cX4_crown 6 = .ok (.iconst (-1), 1) := by decide +kernel
theorem dX4_crown_7 : decode cX4_crown 7 = .ok (.if_icmp .eq 16, 3) := by decide +kernel
theorem dX4_crown_10 : decode cX4_crown 10 = .ok (.aload_n 0, 1) := by decide +kernel
theorem dX4_crown_11 : decode cX4_crown 11 = .ok (.dup, 1) := by decide +kernel
theorem dX4_crown_12 : decode cX4_crown 12 = .ok (.getfield 302, 3) := by decide +kernel
theorem dX4_crown_15 : decode cX4_crown 15 = .ok (.iload_n 1, 1) := by decide +kernel
theorem dX4_crown_16 : decode cX4_crown 16 = .ok (.invokestatic 120, 3) := by decide +kernel
theorem dX4_crown_19 : decode cX4_crown 19 = .ok (.ior, 1) := by decide +kernel
theorem dX4_crown_20 : decode cX4_crown 20 = .ok (.putfield 302, 3) := by decide +kernel
theorem dX4_crown_23 : decode cX4_crown 23 = .ok (.return_, 1) := by decide +kernel
theorem dX4_winnerWithout_0 : decode cX4_winnerWithout 0 = .ok (.aload_n 0, 1) := by decide +kernel
theorem dX4_winnerWithout_1 : decode cX4_winnerWithout 1 = .ok (.getfield 246, 3) := by decide +kernel
theorem dX4_winnerWithout_4 : decode cX4_winnerWithout 4 = .ok (.aload_n 0, 1) := by decide +kernel
theorem dX4_winnerWithout_5 : decode cX4_winnerWithout 5 = .ok (.getfield 273, 3) := by decide +kernel
theorem dX4_winnerWithout_8 : decode cX4_winnerWithout 8 = .ok (.iconst (-1), 1) := by decide +kernel
theorem dX4_winnerWithout_9 : decode cX4_winnerWithout 9 = .ok (.ixor, 1) := by decide +kernel
theorem dX4_winnerWithout_10 : decode cX4_winnerWithout 10 = .ok (.iand, 1) := by decide +kernel
theorem dX4_winnerWithout_11 : decode cX4_winnerWithout 11 = .ok (.iload_n 1, 1) := by decide +kernel
theorem dX4_winnerWithout_12 : decode cX4_winnerWithout 12 = .ok (.iconst (-1), 1) := by decide +kernel
theorem dX4_winnerWithout_13 : decode cX4_winnerWithout 13 = .ok (.ixor, 1) := by decide +kernel
theorem dX4_winnerWithout_14 : decode cX4_winnerWithout 14 = .ok (.iand, 1) := by decide +kernel
theorem dX4_winnerWithout_15 : decode cX4_winnerWithout 15 = .ok (.istore_n 3, 1) := by decide +kernel
theorem dX4_winnerWithout_16 : decode cX4_winnerWithout 16 = .ok (.iconst (-1), 1) := by decide +kernel
theorem dX4_winnerWithout_17 : decode cX4_winnerWithout 17 = .ok (.istore 4, 2) := by decide +kernel
theorem dX4_winnerWithout_19 : decode cX4_winnerWithout 19 = .ok (.iconst 0, 1) := by decide +kernel
theorem dX4_winnerWithout_20 : decode cX4_winnerWithout 20 = .ok (.istore 5, 2) := by decide +kernel
theorem dX4_winnerWithout_22 : decode cX4_winnerWithout 22 = .ok (.iload 5, 2) := by decide +kernel
theorem dX4_winnerWithout_24 : decode cX4_winnerWithout 24 = .ok (.bipush 16, 2) := by decide +kernel
theorem dX4_winnerWithout_26 : decode cX4_winnerWithout 26 = .ok (.if_icmp .ge 56, 3) := by decide +kernel
theorem dX4_winnerWithout_29 : decode cX4_winnerWithout 29 = .ok (.iload_n 3, 1) := by decide +kernel
theorem dX4_winnerWithout_30 : decode cX4_winnerWithout 30 = .ok (.ifCond .eq 52, 3) := by decide +kernel
theorem dX4_winnerWithout_33 : decode cX4_winnerWithout 33 = .ok (.aload_n 0, 1) := by decide +kernel
theorem dX4_winnerWithout_34 : decode cX4_winnerWithout 34 = .ok (.iload_n 3, 1) := by decide +kernel
theorem dX4_winnerWithout_35 : decode cX4_winnerWithout 35 = .ok (.iload_n 2, 1) := by decide +kernel
theorem dX4_winnerWithout_36 : decode cX4_winnerWithout 36 = .ok (.invokevirtual 476, 3) := by decide +kernel
theorem dX4_winnerWithout_39 : decode cX4_winnerWithout 39 = .ok (.istore 6, 2) := by decide +kernel
theorem dX4_winnerWithout_41 : decode cX4_winnerWithout 41 = .ok (.aload_n 0, 1) := by decide +kernel
theorem dX4_winnerWithout_42 : decode cX4_winnerWithout 42 = .ok (.iload_n 3, 1) := by decide +kernel
theorem dX4_winnerWithout_43 : decode cX4_winnerWithout 43 = .ok (.iload 6, 2) := by decide +kernel
theorem dX4_winnerWithout_45 : decode cX4_winnerWithout 45 = .ok (.invokevirtual 479, 3) := by decide +kernel
theorem dX4_winnerWithout_48 : decode cX4_winnerWithout 48 = .ok (.istore 7, 2) := by decide +kernel
theorem dX4_winnerWithout_50 : decode cX4_winnerWithout 50 = .ok (.iload 7, 2) := by decide +kernel
theorem dX4_winnerWithout_52 : decode cX4_winnerWithout 52 = .ok (.iconst (-1), 1) := by decide +kernel
theorem dX4_winnerWithout_53 : decode cX4_winnerWithout 53 = .ok (.if_icmp .eq 6, 3) := by decide +kernel
theorem dX4_winnerWithout_56 : decode cX4_winnerWithout 56 = .ok (.iload 7, 2) := by decide +kernel
theorem dX4_winnerWithout_58 : decode cX4_winnerWithout 58 = .ok (.ireturn, 1) := by decide +kernel
theorem dX4_winnerWithout_59 : decode cX4_winnerWithout 59 = .ok (.aload_n 0, 1) := by decide +kernel
theorem dX4_winnerWithout_60 : decode cX4_winnerWithout 60 = .ok (.iload_n 3, 1) := by decide +kernel
theorem dX4_winnerWithout_61 : decode cX4_winnerWithout 61 = .ok (.invokevirtual 482, 3) := by decide +kernel
theorem dX4_winnerWithout_64 : decode cX4_winnerWithout 64 = .ok (.istore 4, 2) := by decide +kernel
theorem dX4_winnerWithout_66 : decode cX4_winnerWithout 66 = .ok (.iload_n 3, 1) := by decide +kernel
theorem dX4_winnerWithout_67 : decode cX4_winnerWithout 67 = .ok (.iload 4, 2) := by decide +kernel
theorem dX4_winnerWithout_69 : decode cX4_winnerWithout 69 = .ok (.invokestatic 120, 3) := by decide +kernel
theorem dX4_winnerWithout_72 : decode cX4_winnerWithout 72 = .ok (.iconst (-1), 1) := by decide +kernel
theorem dX4_winnerWithout_73 : decode cX4_winnerWithout 73 = .ok (.ixor, 1) := by decide +kernel
theorem dX4_winnerWithout_74 : decode cX4_winnerWithout 74 = .ok (.iand, 1) := by decide +kernel
theorem dX4_winnerWithout_75 : decode cX4_winnerWithout 75 = .ok (.istore_n 3, 1) := by decide +kernel
theorem dX4_winnerWithout_76 : decode cX4_winnerWithout 76 = .ok (.iinc 5 1, 3) := by decide +kernel
theorem dX4_winnerWithout_79 : decode cX4_winnerWithout 79 = .ok (.goto (-57), 3) := by decide +kernel
theorem dX4_winnerWithout_82 : decode cX4_winnerWithout 82 = .ok (.iload 4, 2) := by decide +kernel
theorem dX4_winnerWithout_84 : decode cX4_winnerWithout 84 = .ok (.ireturn, 1) := by decide +kernel
theorem dX4_countVotes_0 : decode cX4_countVotes 0 = .ok (.iconst 0, 1) := by decide +kernel
theorem dX4_countVotes_1 : decode cX4_countVotes 1 = .ok (.istore_n 3, 1) := by decide +kernel
theorem dX4_countVotes_2 : decode cX4_countVotes 2 = .ok (.iload_n 3, 1) := by decide +kernel
theorem dX4_countVotes_3 : decode cX4_countVotes 3 = .ok (.bipush 16, 2) := by decide +kernel
theorem dX4_countVotes_5 : decode cX4_countVotes 5 = .ok (.if_icmp .ge 16, 3) := by decide +kernel
theorem dX4_countVotes_8 : decode cX4_countVotes 8 = .ok (.aload_n 0, 1) := by decide +kernel
theorem dX4_countVotes_9 : decode cX4_countVotes 9 = .ok (.getfield 47, 3) := by decide +kernel
theorem dX4_countVotes_12 : decode cX4_countVotes 12 = .ok (.iload_n 3, 1) := by decide +kernel
theorem dX4_countVotes_13 : decode cX4_countVotes 13 = .ok (.iconst 0, 1) := by decide +kernel
theorem dX4_countVotes_14 : decode cX4_countVotes 14 = .ok (.iastore, 1) := by decide +kernel
theorem dX4_countVotes_15 : decode cX4_countVotes 15 = .ok (.iinc 3 1, 3) := by decide +kernel
theorem dX4_countVotes_18 : decode cX4_countVotes 18 = .ok (.goto (-16), 3) := by decide +kernel
theorem dX4_countVotes_21 : decode cX4_countVotes 21 = .ok (.iconst 0, 1) := by decide +kernel
theorem dX4_countVotes_22 : decode cX4_countVotes 22 = .ok (.istore_n 3, 1) := by decide +kernel
theorem dX4_countVotes_23 : decode cX4_countVotes 23 = .ok (.iconst 0, 1) := by decide +kernel
theorem dX4_countVotes_24 : decode cX4_countVotes 24 = .ok (.istore 4, 2) := by decide +kernel
theorem dX4_countVotes_26 : decode cX4_countVotes 26 = .ok (.iload 4, 2) := by decide +kernel
theorem dX4_countVotes_28 : decode cX4_countVotes 28 = .ok (.aload_n 0, 1) := by decide +kernel
theorem dX4_countVotes_29 : decode cX4_countVotes 29 = .ok (.getfield 102, 3) := by decide +kernel
theorem dX4_countVotes_32 : decode cX4_countVotes 32 = .ok (.if_icmp .ge 67, 3) := by decide +kernel
theorem dX4_countVotes_35 : decode cX4_countVotes 35 = .ok (.iload_n 2, 1) := by decide +kernel
theorem dX4_countVotes_36 : decode cX4_countVotes 36 = .ok (.iload 4, 2) := by decide +kernel
theorem dX4_countVotes_38 : decode cX4_countVotes 38 = .ok (.invokestatic 223, 3) := by decide +kernel
theorem dX4_countVotes_41 : decode cX4_countVotes 41 = .ok (.ifCond .eq 7, 3) := by decide +kernel
theorem dX4_countVotes_44 : decode cX4_countVotes 44 = .ok (.iconst (-1), 1) := by decide +kernel
theorem dX4_countVotes_45 : decode cX4_countVotes 45 = .ok (.goto 26, 3) := by decide +kernel
theorem dX4_countVotes_48 : decode cX4_countVotes 48 = .ok (.aload_n 0, 1) := by decide +kernel
theorem dX4_countVotes_49 : decode cX4_countVotes 49 = .ok (.getfield 23, 3) := by decide +kernel
theorem dX4_countVotes_52 : decode cX4_countVotes 52 = .ok (.iload 4, 2) := by decide +kernel
theorem dX4_countVotes_54 : decode cX4_countVotes 54 = .ok (.aaload, 1) := by decide +kernel
theorem dX4_countVotes_55 : decode cX4_countVotes 55 = .ok (.iload_n 1, 1) := by decide +kernel
theorem dX4_countVotes_56 : decode cX4_countVotes 56 = .ok (.aload_n 0, 1) := by decide +kernel
theorem dX4_countVotes_57 : decode cX4_countVotes 57 = .ok (.aload_n 0, 1) := by decide +kernel
theorem dX4_countVotes_58 : decode cX4_countVotes 58 = .ok (.getfield 23, 3) := by decide +kernel
theorem dX4_countVotes_61 : decode cX4_countVotes 61 = .ok (.iload 4, 2) := by decide +kernel
theorem dX4_countVotes_63 : decode cX4_countVotes 63 = .ok (.aaload, 1) := by decide +kernel
theorem dX4_countVotes_64 : decode cX4_countVotes 64 = .ok (.invokevirtual 485, 3) := by decide +kernel
theorem dX4_countVotes_67 : decode cX4_countVotes 67 = .ok (.iand, 1) := by decide +kernel
theorem dX4_countVotes_68 : decode cX4_countVotes 68 = .ok (.invokevirtual 489, 3) := by decide +kernel
theorem dX4_countVotes_71 : decode cX4_countVotes 71 = .ok (.istore 5, 2) := by decide +kernel
theorem dX4_countVotes_73 : decode cX4_countVotes 73 = .ok (.iload 5, 2) := by decide +kernel
theorem dX4_countVotes_75 : decode cX4_countVotes 75 = .ok (.iconst (-1), 1) := by decide +kernel
theorem dX4_countVotes_76 : decode cX4_countVotes 76 = .ok (.if_icmp .eq 17, 3) := by decide +kernel
theorem dX4_countVotes_79 : decode cX4_countVotes 79 = .ok (.aload_n 0, 1) := by decide +kernel
theorem dX4_countVotes_80 : decode cX4_countVotes 80 = .ok (.getfield 47, 3) := by decide +kernel
theorem dX4_countVotes_83 : decode cX4_countVotes 83 = .ok (.iload 5, 2) := by decide +kernel
theorem dX4_countVotes_85 : decode cX4_countVotes 85 = .ok (.dup2, 1) := by decide +kernel
theorem dX4_countVotes_86 : decode cX4_countVotes 86 = .ok (.iaload, 1) := by decide +kernel
theorem dX4_countVotes_87 : decode cX4_countVotes 87 = .ok (.iconst 1, 1) := by decide +kernel
theorem dX4_countVotes_88 : decode cX4_countVotes 88 = .ok (.iadd, 1) := by decide +kernel
theorem dX4_countVotes_89 : decode cX4_countVotes 89 = .ok (.iastore, 1) := by decide +kernel
theorem dX4_countVotes_90 : decode cX4_countVotes 90 = .ok (.iinc 3 1, 3) := by decide +kernel
theorem dX4_countVotes_93 : decode cX4_countVotes 93 = .ok (.iinc 4 1, 3) := by decide +kernel
theorem dX4_countVotes_96 : decode cX4_countVotes 96 = .ok (.goto (-70), 3) := by decide +kernel
theorem dX4_countVotes_99 : decode cX4_countVotes 99 = .ok (.iload_n 3, 1) := by decide +kernel
theorem dX4_countVotes_100 : decode cX4_countVotes 100 = .ok (.ireturn, 1) := by decide +kernel
theorem dX4_aboveHalf_0 : decode cX4_aboveHalf 0 = .ok (.iconst 0, 1) := by decide +kernel
theorem dX4_aboveHalf_1 : decode cX4_aboveHalf 1 = .ok (.istore_n 3, 1) := by decide +kernel
theorem dX4_aboveHalf_2 : decode cX4_aboveHalf 2 = .ok (.iload_n 3, 1) := by decide +kernel
theorem dX4_aboveHalf_3 : decode cX4_aboveHalf 3 = .ok (.aload_n 0, 1) := by decide +kernel
theorem dX4_aboveHalf_4 : decode cX4_aboveHalf 4 = .ok (.getfield 85, 3) := by decide +kernel
theorem dX4_aboveHalf_7 : decode cX4_aboveHalf 7 = .ok (.if_icmp .ge 31, 3) := by decide +kernel
theorem dX4_aboveHalf_10 : decode cX4_aboveHalf 10 = .ok (.iload_n 1, 1) := by decide +kernel
theorem dX4_aboveHalf_11 : decode cX4_aboveHalf 11 = .ok (.iload_n 3, 1) := by decide +kernel
theorem dX4_aboveHalf_12 : decode cX4_aboveHalf 12 = .ok (.invokestatic 223, 3) := by decide +kernel
theorem dX4_aboveHalf_15 : decode cX4_aboveHalf 15 = .ok (.ifCond .eq 17, 3) := by decide +kernel
theorem dX4_aboveHalf_18 : decode cX4_aboveHalf 18 = .ok (.iconst 2, 1) := by decide +kernel
theorem dX4_aboveHalf_19 : decode cX4_aboveHalf 19 = .ok (.aload_n 0, 1) := by decide +kernel
theorem dX4_aboveHalf_20 : decode cX4_aboveHalf 20 = .ok (.getfield 47, 3) := by decide +kernel
theorem dX4_aboveHalf_23 : decode cX4_aboveHalf 23 = .ok (.iload_n 3, 1) := by decide +kernel
theorem dX4_aboveHalf_24 : decode cX4_aboveHalf 24 = .ok (.iaload, 1) := by decide +kernel
theorem dX4_aboveHalf_25 : decode cX4_aboveHalf 25 = .ok (.imul, 1) := by decide +kernel
theorem dX4_aboveHalf_26 : decode cX4_aboveHalf 26 = .ok (.iload_n 2, 1) := by decide +kernel
theorem dX4_aboveHalf_27 : decode cX4_aboveHalf 27 = .ok (.if_icmp .le 5, 3) := by decide +kernel
theorem dX4_aboveHalf_30 : decode cX4_aboveHalf 30 = .ok (.iload_n 3, 1) := by decide +kernel
theorem dX4_aboveHalf_31 : decode cX4_aboveHalf 31 = .ok (.ireturn, 1) := by decide +kernel
theorem dX4_aboveHalf_32 : decode cX4_aboveHalf 32 = .ok (.iinc 3 1, 3) := by decide +kernel
theorem dX4_aboveHalf_35 : decode cX4_aboveHalf 35 = .ok (.goto (-33), 3) := by decide +kernel
theorem dX4_aboveHalf_38 : decode cX4_aboveHalf 38 = .ok (.iconst (-1), 1) := by decide +kernel
theorem dX4_aboveHalf_39 : decode cX4_aboveHalf 39 = .ok (.ireturn, 1) := by decide +kernel
theorem dX4_weakestOf_0 : decode cX4_weakestOf 0 = .ok (.iconst (-1), 1) := by decide +kernel
theorem dX4_weakestOf_1 : decode cX4_weakestOf 1 = .ok (.istore_n 2, 1) := by decide +kernel
theorem dX4_weakestOf_2 : decode cX4_weakestOf 2 = .ok (.iconst 0, 1) := by decide +kernel
theorem dX4_weakestOf_3 : decode cX4_weakestOf 3 = .ok (.istore_n 3, 1) := by decide +kernel
theorem dX4_weakestOf_4 : decode cX4_weakestOf 4 = .ok (.iload_n 3, 1) := by decide +kernel
theorem dX4_weakestOf_5 : decode cX4_weakestOf 5 = .ok (.aload_n 0, 1) := by decide +kernel
theorem dX4_weakestOf_6 : decode cX4_weakestOf 6 = .ok (.getfield 85, 3) := by decide +kernel
theorem dX4_weakestOf_9 : decode cX4_weakestOf 9 = .ok (.if_icmp .ge 67, 3) := by decide +kernel
theorem dX4_weakestOf_12 : decode cX4_weakestOf 12 = .ok (.iload_n 1, 1) := by decide +kernel
theorem dX4_weakestOf_13 : decode cX4_weakestOf 13 = .ok (.iload_n 3, 1) := by decide +kernel
theorem dX4_weakestOf_14 : decode cX4_weakestOf 14 = .ok (.invokestatic 223, 3) := by decide +kernel
theorem dX4_weakestOf_17 : decode cX4_weakestOf 17 = .ok (.ifCond .eq 53, 3) := by decide +kernel
theorem dX4_weakestOf_20 : decode cX4_weakestOf 20 = .ok (.iload_n 2, 1) := by decide +kernel
theorem dX4_weakestOf_21 : decode cX4_weakestOf 21 = .ok (.iconst (-1), 1) := by decide +kernel
theorem dX4_weakestOf_22 : decode cX4_weakestOf 22 = .ok (.if_icmp .eq 46, 3) := by decide +kernel
theorem dX4_weakestOf_25 : decode cX4_weakestOf 25 = .ok (.aload_n 0, 1) := by decide +kernel
theorem dX4_weakestOf_26 : decode cX4_weakestOf 26 = .ok (.getfield 47, 3) := by decide +kernel
theorem dX4_weakestOf_29 : decode cX4_weakestOf 29 = .ok (.iload_n 3, 1) := by decide +kernel
theorem dX4_weakestOf_30 : decode cX4_weakestOf 30 = .ok (.iaload, 1) := by decide +kernel
theorem dX4_weakestOf_31 : decode cX4_weakestOf 31 = .ok (.aload_n 0, 1) := by decide +kernel
theorem dX4_weakestOf_32 : decode cX4_weakestOf 32 = .ok (.getfield 47, 3) := by decide +kernel
theorem dX4_weakestOf_35 : decode cX4_weakestOf 35 = .ok (.iload_n 2, 1) := by decide +kernel
theorem dX4_weakestOf_36 : decode cX4_weakestOf 36 = .ok (.iaload, 1) := by decide +kernel
theorem dX4_weakestOf_37 : decode cX4_weakestOf 37 = .ok (.if_icmp .lt 31, 3) := by decide +kernel
theorem dX4_weakestOf_40 : decode cX4_weakestOf 40 = .ok (.aload_n 0, 1) := by decide +kernel
theorem dX4_weakestOf_41 : decode cX4_weakestOf 41 = .ok (.getfield 47, 3) := by decide +kernel
theorem dX4_weakestOf_44 : decode cX4_weakestOf 44 = .ok (.iload_n 3, 1) := by decide +kernel
theorem dX4_weakestOf_45 : decode cX4_weakestOf 45 = .ok (.iaload, 1) := by decide +kernel
theorem dX4_weakestOf_46 : decode cX4_weakestOf 46 = .ok (.aload_n 0, 1) := by decide +kernel
theorem dX4_weakestOf_47 : decode cX4_weakestOf 47 = .ok (.getfield 47, 3) := by decide +kernel
theorem dX4_weakestOf_50 : decode cX4_weakestOf 50 = .ok (.iload_n 2, 1) := by decide +kernel
theorem dX4_weakestOf_51 : decode cX4_weakestOf 51 = .ok (.iaload, 1) := by decide +kernel
theorem dX4_weakestOf_52 : decode cX4_weakestOf 52 = .ok (.if_icmp .ne 18, 3) := by decide +kernel
theorem dX4_weakestOf_55 : decode cX4_weakestOf 55 = .ok (.aload_n 0, 1) := by decide +kernel
theorem dX4_weakestOf_56 : decode cX4_weakestOf 56 = .ok (.iload_n 3, 1) := by decide +kernel
theorem dX4_weakestOf_57 : decode cX4_weakestOf 57 = .ok (.invokevirtual 316, 3) := by decide +kernel
theorem dX4_weakestOf_60 : decode cX4_weakestOf 60 = .ok (.aload_n 0, 1) := by decide +kernel
theorem dX4_weakestOf_61 : decode cX4_weakestOf 61 = .ok (.iload_n 2, 1) := by decide +kernel
theorem dX4_weakestOf_62 : decode cX4_weakestOf 62 = .ok (.invokevirtual 316, 3) := by decide +kernel
theorem dX4_weakestOf_65 : decode cX4_weakestOf 65 = .ok (.if_icmp .gt 5, 3) := by decide +kernel
theorem dX4_weakestOf_68 : decode cX4_weakestOf 68 = .ok (.iload_n 3, 1) := by decide +kernel
theorem dX4_weakestOf_69 : decode cX4_weakestOf 69 = .ok (.istore_n 2, 1) := by decide +kernel
theorem dX4_weakestOf_70 : decode cX4_weakestOf 70 = .ok (.iinc 3 1, 3) := by decide +kernel
theorem dX4_weakestOf_73 : decode cX4_weakestOf 73 = .ok (.goto (-69), 3) := by decide +kernel
theorem dX4_weakestOf_76 : decode cX4_weakestOf 76 = .ok (.iload_n 2, 1) := by decide +kernel
theorem dX4_weakestOf_77 : decode cX4_weakestOf 77 = .ok (.ireturn, 1) := by decide +kernel
theorem dX4_isAheadOfRest_0 : decode cX4_isAheadOfRest 0 = .ok (.iconst 0, 1) := by decide +kernel
theorem dX4_isAheadOfRest_1 : decode cX4_isAheadOfRest 1 = .ok (.istore_n 2, 1) := by decide +kernel
theorem dX4_isAheadOfRest_2 : decode cX4_isAheadOfRest 2 = .ok (.iload_n 2, 1) := by decide +kernel
theorem dX4_isAheadOfRest_3 : decode cX4_isAheadOfRest 3 = .ok (.aload_n 0, 1) := by decide +kernel
theorem dX4_isAheadOfRest_4 : decode cX4_isAheadOfRest 4 = .ok (.getfield 85, 3) := by decide +kernel
theorem dX4_isAheadOfRest_7 : decode cX4_isAheadOfRest 7 = .ok (.if_icmp .ge 36, 3) := by decide +kernel
theorem dX4_isAheadOfRest_10 : decode cX4_isAheadOfRest 10 = .ok (.iload_n 2, 1) := by decide +kernel
theorem dX4_isAheadOfRest_11 : decode cX4_isAheadOfRest 11 = .ok (.iload_n 1, 1) := by decide +kernel
theorem dX4_isAheadOfRest_12 : decode cX4_isAheadOfRest 12 = .ok (.if_icmp .eq 25, 3) := by decide +kernel
