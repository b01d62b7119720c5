theorem dX0_init_0 : decode cX0_init 0 = .ok (.aload_n 0, 1) := by decide +kernel
theorem dX0_init_1 : decode cX0_init 1 = .ok (.invokespecial 3, 3) := by decide +kernel
theorem dX0_init_4 : decode cX0_init 4 = .ok (.aload_n 0, 1) := by decide +kernel
theorem dX0_init_5 : decode cX0_init 5 = .ok (.iconst (-1), 1) := by decide +kernel
theorem dX0_init_6 : decode cX0_init 6 = .ok (.putfield 9, 3) := by decide +kernel
theorem dX0_init_9 : decode cX0_init 9 = .ok (.return_, 1) := by decide +kernel
theorem dX0_describe_0 : decode cX0_describe 0 = .ok (.aload_n 0, 1) := by decide +kernel
theorem dX0_describe_1 : decode cX0_describe 1 = .ok (.iload_n 1, 1) := by decide +kernel
theorem dX0_describe_2 : decode cX0_describe 2 = .ok (.putfield 15, 3) := by decide +kernel
theorem dX0_describe_5 : decode cX0_describe 5 = .ok (.aload_n 0, 1) := by decide +kernel
theorem dX0_describe_6 : decode cX0_describe 6 = .ok (.iload_n 2, 1) := by decide +kernel
theorem dX0_describe_7 : decode cX0_describe 7 = .ok (.putfield 18, 3) := by decide +kernel
theorem dX0_describe_10 : decode cX0_describe 10 = .ok (.aload_n 0, 1) := by decide +kernel
theorem dX0_describe_11 : decode cX0_describe 11 = .ok (.iload_n 3, 1) := by decide +kernel
theorem dX0_describe_12 : decode cX0_describe 12 = .ok (.putfield 21, 3) := by decide +kernel
theorem dX0_describe_15 : decode cX0_describe 15 = .ok (.aload_n 0, 1) := by decide +kernel
theorem dX0_describe_16 : decode cX0_describe 16 = .ok (.iload 4, 2) := by decide +kernel
theorem dX0_describe_18 : decode cX0_describe 18 = .ok (.putfield 24, 3) := by decide +kernel
theorem dX0_describe_21 : decode cX0_describe 21 = .ok (.aload_n 0, 1) := by decide +kernel
theorem dX0_describe_22 : decode cX0_describe 22 = .ok (.iload 5, 2) := by decide +kernel
theorem dX0_describe_24 : decode cX0_describe 24 = .ok (.putfield 27, 3) := by decide +kernel
theorem dX0_describe_27 : decode cX0_describe 27 = .ok (.aload_n 0, 1) := by decide +kernel
theorem dX0_describe_28 : decode cX0_describe 28 = .ok (.iload 6, 2) := by decide +kernel
theorem dX0_describe_30 : decode cX0_describe 30 = .ok (.putfield 30, 3) := by decide +kernel
theorem dX0_describe_33 : decode cX0_describe 33 = .ok (.return_, 1) := by decide +kernel
theorem dX0_sell_0 : decode cX0_sell 0 = .ok (.iload_n 1, 1) := by decide +kernel
theorem dX0_sell_1 : decode cX0_sell 1 = .ok (.aload_n 0, 1) := by decide +kernel
theorem dX0_sell_2 : decode cX0_sell 2 = .ok (.getfield 33, 3) := by decide +kernel
theorem dX0_sell_5 : decode cX0_sell 5 = .ok (.invokestatic 36, 3) := by decide +kernel
theorem dX0_sell_8 : decode cX0_sell 8 = .ok (.istore_n 2, 1) := by decide +kernel
theorem dX0_sell_9 : decode cX0_sell 9 = .ok (.aload_n 0, 1) := by decide +kernel
theorem dX0_sell_10 : decode cX0_sell 10 = .ok (.dup, 1) := by decide +kernel
theorem dX0_sell_11 : decode cX0_sell 11 = .ok (.getfield 33, 3) := by decide +kernel
theorem dX0_sell_14 : decode cX0_sell 14 = .ok (.iload_n 2, 1) := by decide +kernel
theorem dX0_sell_15 : decode cX0_sell 15 = .ok (.isub, 1) := by decide +kernel
theorem dX0_sell_16 : decode cX0_sell 16 = .ok (.putfield 33, 3) := by decide +kernel
theorem dX0_sell_19 : decode cX0_sell 19 = .ok (.aload_n 0, 1) := by decide +kernel
theorem dX0_sell_20 : decode cX0_sell 20 = .ok (.dup, 1) := by decide +kernel
theorem dX0_sell_21 : decode cX0_sell 21 = .ok (.getfield 42, 3) := by decide +kernel
theorem dX0_sell_24 : decode cX0_sell 24 = .ok (.iload_n 2, 1) := by decide +kernel
theorem dX0_sell_25 : decode cX0_sell 25 = .ok (.iadd, 1) := by decide +kernel
theorem dX0_sell_26 : decode cX0_sell 26 = .ok (.putfield 42, 3) := by decide +kernel
theorem dX0_sell_29 : decode cX0_sell 29 = .ok (.aload_n 0, 1) := by decide +kernel
theorem dX0_sell_30 : decode cX0_sell 30 = .ok (.dup, 1) := by decide +kernel
theorem dX0_sell_31 : decode cX0_sell 31 = .ok (.getfield 45, 3) := by decide +kernel
theorem dX0_sell_34 : decode cX0_sell 34 = .ok (.iload_n 1, 1) := by decide +kernel
theorem dX0_sell_35 : decode cX0_sell 35 = .ok (.iload_n 2, 1) := by decide +kernel
theorem dX0_sell_36 : decode cX0_sell 36 = .ok (.isub, 1) := by decide +kernel
theorem dX0_sell_37 : decode cX0_sell 37 = .ok (.iadd, 1) := by decide +kernel
theorem dX0_sell_38 : decode cX0_sell 38 = .ok (.putfield 45, 3) := by decide +kernel
theorem dX0_sell_41 : decode cX0_sell 41 = .ok (.iload_n 2, 1) := by decide +kernel
theorem dX0_sell_42 : decode cX0_sell 42 = .ok (.ireturn, 1) := by decide +kernel
theorem dX1_init_0 : decode cX1_init 0 = .ok (.aload_n 0, 1) := by decide +kernel
theorem dX1_init_1 : decode cX1_init 1 = .ok (.invokespecial 1, 3) := by decide +kernel
theorem dX1_init_4 : decode cX1_init 4 = .ok (.aload_n 0, 1) := by decide +kernel
theorem dX1_init_5 : decode cX1_init 5 = .ok (.bipush 100, 2) := by decide +kernel
theorem dX1_init_7 : decode cX1_init 7 = .ok (.putfield 7, 3) := by decide +kernel
theorem dX1_init_10 : decode cX1_init 10 = .ok (.return_, 1) := by decide +kernel
theorem dX2_init_0 : decode cX2_init 0 = .ok (.aload_n 0, 1) := by decide +kernel
theorem dX2_init_1 : decode cX2_init 1 = .ok (.invokespecial 3, 3) := by decide +kernel
theorem dX2_init_4 : decode cX2_init 4 = .ok (.aload_n 0, 1) := by decide +kernel
theorem dX2_init_5 : decode cX2_init 5 = .ok (.bipush 16, 2) := by decide +kernel
theorem dX2_init_7 : decode cX2_init 7 = .ok (.newarray .int, 2) := by decide +kernel
theorem dX2_init_9 : decode cX2_init 9 = .ok (.putfield 9, 3) := by decide +kernel
theorem dX2_init_12 : decode cX2_init 12 = .ok (.aload_n 0, 1) := by decide +kernel
theorem dX2_init_13 : decode cX2_init 13 = .ok (.bipush 16, 2) := by decide +kernel
theorem dX2_init_15 : decode cX2_init 15 = .ok (.newarray .int, 2) := by decide +kernel
theorem dX2_init_17 : decode cX2_init 17 = .ok (.putfield 15, 3) := by decide +kernel
theorem dX2_init_20 : decode cX2_init 20 = .ok (.aload_n 0, 1) := by decide +kernel
theorem dX2_init_21 : decode cX2_init 21 = .ok (.bipush 16, 2) := by decide +kernel
theorem dX2_init_23 : decode cX2_init 23 = .ok (.newarray .int, 2) := by decide +kernel
theorem dX2_init_25 : decode cX2_init 25 = .ok (.putfield 18, 3) := by decide +kernel
theorem dX2_init_28 : decode cX2_init 28 = .ok (.aload_n 0, 1) := by decide +kernel
theorem dX2_init_29 : decode cX2_init 29 = .ok (.bipush 16, 2) := by decide +kernel
theorem dX2_init_31 : decode cX2_init 31 = .ok (.newarray .int, 2) := by decide +kernel
theorem dX2_init_33 : decode cX2_init 33 = .ok (.putfield 21, 3) := by decide +kernel
theorem dX2_init_36 : decode cX2_init 36 = .ok (.aload_n 0, 1) := by decide +kernel
theorem dX2_init_37 : decode cX2_init 37 = .ok (.iconst 5, 1) := by decide +kernel
theorem dX2_init_38 : decode cX2_init 38 = .ok (.newarray .int, 2) := by decide +kernel
theorem dX2_init_40 : decode cX2_init 40 = .ok (.putfield 24, 3) := by decide +kernel
theorem dX2_init_43 : decode cX2_init 43 = .ok (.iconst 0, 1) := by decide +kernel
theorem dX2_init_44 : decode cX2_init 44 = .ok (.istore_n 1, 1) := by decide +kernel
theorem dX2_init_45 : decode cX2_init 45 = .ok (.iload_n 1, 1) := by decide +kernel
theorem dX2_init_46 : decode cX2_init 46 = .ok (.bipush 16, 2) := by decide +kernel
theorem dX2_init_48 : decode cX2_init 48 = .ok (.if_icmp .ge 16, 3) := by decide +kernel
theorem dX2_init_51 : decode cX2_init 51 = .ok (.aload_n 0, 1) := by decide +kernel
theorem dX2_init_52 : decode cX2_init 52 = .ok (.getfield 18, 3) := by decide +kernel
theorem dX2_init_55 : decode cX2_init 55 = .ok (.iload_n 1, 1) := by decide +kernel
theorem dX2_init_56 : decode cX2_init 56 = .ok (.iconst (-1), 1) := by decide +kernel
theorem dX2_init_57 : decode cX2_init 57 = .ok (.iastore, 1) := by decide +kernel
theorem dX2_init_58 : decode cX2_init 58 = .ok (.iinc 1 1, 3) := by decide +kernel
theorem dX2_init_61 : decode cX2_init 61 = .ok (.goto (-16), 3) := by decide +kernel
theorem dX2_init_64 : decode cX2_init 64 = .ok (.return_, 1) := by decide +kernel
theorem dX2_describe_0 : decode cX2_describe 0 = .ok (.aload_n 0, 1) := by decide +kernel
theorem dX2_describe_1 : decode cX2_describe 1 = .ok (.iload_n 1, 1) := by decide +kernel
theorem dX2_describe_2 : decode cX2_describe 2 = .ok (.putfield 27, 3) := by decide +kernel
theorem dX2_describe_5 : decode cX2_describe 5 = .ok (.aload_n 0, 1) := by decide +kernel
theorem dX2_describe_6 : decode cX2_describe 6 = .ok (.iload_n 2, 1) := by decide +kernel
theorem dX2_describe_7 : decode cX2_describe 7 = .ok (.putfield 31, 3) := by decide +kernel
theorem dX2_describe_10 : decode cX2_describe 10 = .ok (.aload_n 0, 1) := by decide +kernel
theorem dX2_describe_11 : decode cX2_describe 11 = .ok (.iload_n 3, 1) := by decide +kernel
theorem dX2_describe_12 : decode cX2_describe 12 = .ok (.putfield 34, 3) := by decide +kernel
theorem dX2_describe_15 : decode cX2_describe 15 = .ok (.return_, 1) := by decide +kernel
theorem dX2_clearYear_0 : decode cX2_clearYear 0 = .ok (.aload_n 0, 1) := by decide +kernel
theorem dX2_clearYear_1 : decode cX2_clearYear 1 = .ok (.iconst 0, 1) := by decide +kernel
theorem dX2_clearYear_2 : decode cX2_clearYear 2 = .ok (.putfield 37, 3) := by decide +kernel
theorem dX2_clearYear_5 : decode cX2_clearYear 5 = .ok (.aload_n 0, 1) := by decide +kernel
theorem dX2_clearYear_6 : decode cX2_clearYear 6 = .ok (.iconst 0, 1) := by decide +kernel
theorem dX2_clearYear_7 : decode cX2_clearYear 7 = .ok (.putfield 41, 3) := by decide +kernel
theorem dX2_clearYear_10 : decode cX2_clearYear 10 = .ok (.aload_n 0, 1) := by decide +kernel
theorem dX2_clearYear_11 : decode cX2_clearYear 11 = .ok (.iconst 0, 1) := by decide +kernel
theorem dX2_clearYear_12 : decode cX2_clearYear 12 = .ok (.putfield 44, 3) := by decide +kernel
theorem dX2_clearYear_15 : decode cX2_clearYear 15 = .ok (.aload_n 0, 1) := by decide +kernel
theorem dX2_clearYear_16 : decode cX2_clearYear 16 = .ok (.iconst 0, 1) := by decide +kernel
theorem dX2_clearYear_17 : decode cX2_clearYear 17 = .ok (.putfield 47, 3) := by decide +kernel
theorem dX2_clearYear_20 : decode cX2_clearYear 20 = .ok (.aload_n 0, 1) := by decide +kernel
theorem dX2_clearYear_21 : decode cX2_clearYear 21 = .ok (.iconst 0, 1) := by decide +kernel
theorem dX2_clearYear_22 : decode cX2_clearYear 22 = .ok (.putfield 50, 3) := by decide +kernel
theorem dX2_clearYear_25 : decode cX2_clearYear 25 = .ok (.aload_n 0, 1) := by decide +kernel
theorem dX2_clearYear_26 : decode cX2_clearYear 26 = .ok (.iconst 0, 1) := by decide +kernel
theorem dX2_clearYear_27 : decode cX2_clearYear 27 = .ok (.putfield 53, 3) := by decide +kernel
theorem dX2_clearYear_30 : decode cX2_clearYear 30 = .ok (.aload_n 0, 1) := by decide +kernel
theorem dX2_clearYear_31 : decode cX2_clearYear 31 = .ok (.iconst 0, 1) := by decide +kernel
theorem dX2_clearYear_32 : decode cX2_clearYear 32 = .ok (.putfield 56, 3) := by decide +kernel
theorem dX2_clearYear_35 : decode cX2_clearYear 35 = .ok (.iconst 0, 1) := by decide +kernel
theorem dX2_clearYear_36 : decode cX2_clearYear 36 = .ok (.istore_n 1, 1) := by decide +kernel
theorem dX2_clearYear_37 : decode cX2_clearYear 37 = .ok (.iload_n 1, 1) := by decide +kernel
theorem dX2_clearYear_38 : decode cX2_clearYear 38 = .ok (.bipush 16, 2) := by decide +kernel
theorem dX2_clearYear_40 : decode cX2_clearYear 40 = .ok (.if_icmp .ge 23, 3) := by decide +kernel
theorem dX2_clearYear_43 : decode cX2_clearYear 43 = .ok (.aload_n 0, 1) := by decide +kernel
theorem dX2_clearYear_44 : decode cX2_clearYear 44 = .ok (.getfield 18, 3) := by decide +kernel
theorem dX2_clearYear_47 : decode cX2_clearYear 47 = .ok (.iload_n 1, 1) := by decide +kernel
theorem dX2_clearYear_48 : decode cX2_clearYear 48 = .ok (.iconst (-1), 1) := by decide +kernel
theorem dX2_clearYear_49 : decode cX2_clearYear 49 = .ok (.iastore, 1) := by decide +kernel
theorem dX2_clearYear_50 : decode cX2_clearYear 50 = .ok (.aload_n 0, 1) := by decide +kernel
theorem dX2_clearYear_51 : decode cX2_clearYear 51 = .ok (.getfield 21, 3) := by decide +kernel
theorem dX2_clearYear_54 : decode cX2_clearYear 54 = .ok (.iload_n 1, 1) := by decide +kernel
theorem dX2_clearYear_55 : decode cX2_clearYear 55 = .ok (.iconst 0, 1) := by decide +kernel
theorem dX2_clearYear_56 : decode cX2_clearYear 56 = .ok (.iastore, 1) := by decide +kernel
theorem dX2_clearYear_57 : decode cX2_clearYear 57 = .ok (.iinc 1 1, 3) := by decide +kernel
theorem dX2_clearYear_60 : decode cX2_clearYear 60 = .ok (.goto (-23), 3) := by decide +kernel
theorem dX2_clearYear_63 : decode cX2_clearYear 63 = .ok (.return_, 1) := by decide +kernel
theorem dX2_isAgainst_0 : decode cX2_isAgainst 0 = .ok (.aload_n 0, 1) := by decide +kernel
theorem dX2_isAgainst_1 : decode cX2_isAgainst 1 = .ok (.getfield 59, 3) := by decide +kernel
theorem dX2_isAgainst_4 : decode cX2_isAgainst 4 = .ok (.iconst 1, 1) := by decide +kernel
theorem dX2_isAgainst_5 : decode cX2_isAgainst 5 = .ok (.iload_n 1, 1) := by decide +kernel
theorem dX2_isAgainst_6 : decode cX2_isAgainst 6 = .ok (.ishl, 1) := by decide +kernel
theorem dX2_isAgainst_7 : decode cX2_isAgainst 7 = .ok (.iand, 1) := by decide +kernel
theorem dX2_isAgainst_8 : decode cX2_isAgainst 8 = .ok (.ifCond .eq 7, 3) := by decide +kernel
theorem dX2_isAgainst_11 : decode cX2_isAgainst 11 = .ok (.iconst 1, 1) := by decide +kernel
theorem dX2_isAgainst_12 : decode cX2_isAgainst 12 = .ok (.goto 4, 3) := by decide +kernel
theorem dX2_isAgainst_15 : decode cX2_isAgainst 15 = .ok (.iconst 0, 1) := by decide +kernel
theorem dX2_isAgainst_16 : decode cX2_isAgainst 16 = .ok (.ireturn, 1) := by decide +kernel
theorem dX2_takeIn_0 : decode cX2_takeIn 0 = .ok (.aload_n 0, 1) := by decide +kernel
theorem dX2_takeIn_1 : decode cX2_takeIn 1 = .ok (.getfield 41, 3) := by decide +kernel
theorem dX2_takeIn_4 : decode cX2_takeIn 4 = .ok (.bipush 16, 2) := by decide +kernel
theorem dX2_takeIn_6 : decode cX2_takeIn 6 = .ok (.if_icmp .ge 46, 3) := by decide +kernel
theorem dX2_takeIn_9 : decode cX2_takeIn 9 = .ok (.aload_n 0, 1) := by decide +kernel
theorem dX2_takeIn_10 : decode cX2_takeIn 10 = .ok (.dup, 1) := by decide +kernel
theorem dX2_takeIn_11 : decode cX2_takeIn 11 = .ok (.getfield 44, 3) := by decide +kernel
theorem dX2_takeIn_14 : decode cX2_takeIn 14 = .ok (.iload_n 2, 1) := by decide +kernel
theorem dX2_takeIn_15 : decode cX2_takeIn 15 = .ok (.iadd, 1) := by decide +kernel
theorem dX2_takeIn_16 : decode cX2_takeIn 16 = .ok (.putfield 44, 3) := by decide +kernel
theorem dX2_takeIn_19 : decode cX2_takeIn 19 = .ok (.aload_n 0, 1) := by decide +kernel
theorem dX2_takeIn_20 : decode cX2_takeIn 20 = .ok (.getfield 9, 3) := by decide +kernel
theorem dX2_takeIn_23 : decode cX2_takeIn 23 = .ok (.aload_n 0, 1) := by decide +kernel
theorem dX2_takeIn_24 : decode cX2_takeIn 24 = .ok (.getfield 41, 3) := by decide +kernel
theorem dX2_takeIn_27 : decode cX2_takeIn 27 = .ok (.iload_n 1, 1) := by decide +kernel
theorem dX2_takeIn_28 : decode cX2_takeIn 28 = .ok (.iastore, 1) := by decide +kernel
theorem dX2_takeIn_29 : decode cX2_takeIn 29 = .ok (.aload_n 0, 1) := by decide +kernel
theorem dX2_takeIn_30 : decode cX2_takeIn 30 = .ok (.getfield 15, 3) := by decide +kernel
theorem dX2_takeIn_33 : decode cX2_takeIn 33 = .ok (.aload_n 0, 1) := by decide +kernel
theorem dX2_takeIn_34 : decode cX2_takeIn 34 = .ok (.getfield 41, 3) := by decide +kernel
theorem dX2_takeIn_37 : decode cX2_takeIn 37 = .ok (.aload_n 0, 1) := by decide +kernel
theorem dX2_takeIn_38 : decode cX2_takeIn 38 = .ok (.getfield 44, 3) := by decide +kernel
theorem dX2_takeIn_41 : decode cX2_takeIn 41 = .ok (.iastore, 1) := by decide +kernel
theorem dX2_takeIn_42 : decode cX2_takeIn 42 = .ok (.aload_n 0, 1) := by decide +kernel
theorem dX2_takeIn_43 : decode cX2_takeIn 43 = .ok (.dup, 1) := by decide +kernel
theorem dX2_takeIn_44 : decode cX2_takeIn 44 = .ok (.getfield 41, 3) := by decide +kernel
theorem dX2_takeIn_47 : decode cX2_takeIn 47 = .ok (.iconst 1, 1) := by decide +kernel
theorem dX2_takeIn_48 : decode cX2_takeIn 48 = .ok (.iadd, 1) := by decide +kernel
theorem dX2_takeIn_49 : decode cX2_takeIn 49 = .ok (.putfield 41, 3) := by decide +kernel
theorem dX2_takeIn_52 : decode cX2_takeIn 52 = .ok (.return_, 1) := by decide +kernel
theorem dX2_pagesLeft_0 : decode cX2_pagesLeft 0 = .ok (.aload_n 0, 1) := by decide +kernel
theorem dX2_pagesLeft_1 : decode cX2_pagesLeft 1 = .ok (.getfield 44, 3) := by decide +kernel
theorem dX2_pagesLeft_4 : decode cX2_pagesLeft 4 = .ok (.aload_n 0, 1) := by decide +kernel
theorem dX2_pagesLeft_5 : decode cX2_pagesLeft 5 = .ok (.getfield 50, 3) := by decide +kernel
theorem dX2_pagesLeft_8 : decode cX2_pagesLeft 8 = .ok (.isub, 1) := by decide +kernel
theorem dX2_pagesLeft_9 : decode cX2_pagesLeft 9 = .ok (.ireturn, 1) := by decide +kernel
theorem dX2_paceAfter_0 : decode cX2_paceAfter 0 = .ok (.bipush 10, 2) := by decide +kernel
theorem dX2_paceAfter_2 : decode cX2_paceAfter 2 = .ok (.aload_n 0, 1) := by decide +kernel
theorem dX2_paceAfter_3 : decode cX2_paceAfter 3 = .ok (.getfield 27, 3) := by decide +kernel
theorem dX2_paceAfter_6 : decode cX2_paceAfter 6 = .ok (.iconst 5, 1) := by decide +kernel
theorem dX2_paceAfter_7 : decode cX2_paceAfter 7 = .ok (.iload_n 1, 1) := by decide +kernel
theorem dX2_paceAfter_8 : decode cX2_paceAfter 8 = .ok (.sipush 500, 3) := by decide +kernel
theorem dX2_paceAfter_11 : decode cX2_paceAfter 11 = .ok (.idiv, 1) := by decide +kernel
theorem dX2_paceAfter_12 : decode cX2_paceAfter 12 = .ok (.imul, 1) := by decide +kernel
theorem dX2_paceAfter_13 : decode cX2_paceAfter 13 = .ok (.isub, 1) := by decide +kernel
theorem dX2_paceAfter_14 : decode cX2_paceAfter 14 = .ok (.invokestatic 62, 3) := by decide +kernel
theorem dX2_paceAfter_17 : decode cX2_paceAfter 17 = .ok (.ireturn, 1) := by decide +kernel
theorem dX2_readForDay_0 : decode cX2_readForDay 0 = .ok (.aload_n 0, 1) := by decide +kernel
theorem dX2_readForDay_1 : decode cX2_readForDay 1 = .ok (.dup, 1) := by decide +kernel
theorem dX2_readForDay_2 : decode cX2_readForDay 2 = .ok (.getfield 50, 3) := by decide +kernel
theorem dX2_readForDay_5 : decode cX2_readForDay 5 = .ok (.aload_n 0, 1) := by decide +kernel
theorem dX2_readForDay_6 : decode cX2_readForDay 6 = .ok (.aload_n 0, 1) := by decide +kernel
theorem dX2_readForDay_7 : decode cX2_readForDay 7 = .ok (.getfield 50, 3) := by decide +kernel
theorem dX2_readForDay_10 : decode cX2_readForDay 10 = .ok (.invokevirtual 68, 3) := by decide +kernel
theorem dX2_readForDay_13 : decode cX2_readForDay 13 = .ok (.aload_n 0, 1) := by decide +kernel
theorem dX2_readForDay_14 : decode cX2_readForDay 14 = .ok (.invokevirtual 72, 3) := by decide +kernel
theorem dX2_readForDay_17 : decode cX2_readForDay 17 = .ok (.invokestatic 76, 3) := by decide +kernel
theorem dX2_readForDay_20 : decode cX2_readForDay 20 = .ok (.iadd, 1) := by decide +kernel
theorem dX2_readForDay_21 : decode cX2_readForDay 21 = .ok (.putfield 50, 3) := by decide +kernel
theorem dX2_readForDay_24 : decode cX2_readForDay 24 = .ok (.aload_n 0, 1) := by decide +kernel
theorem dX2_readForDay_25 : decode cX2_readForDay 25 = .ok (.getfield 47, 3) := by decide +kernel
theorem dX2_readForDay_28 : decode cX2_readForDay 28 = .ok (.istore_n 2, 1) := by decide +kernel
theorem dX2_readForDay_29 : decode cX2_readForDay 29 = .ok (.aload_n 0, 1) := by decide +kernel
theorem dX2_readForDay_30 : decode cX2_readForDay 30 = .ok (.getfield 47, 3) := by decide +kernel
theorem dX2_readForDay_33 : decode cX2_readForDay 33 = .ok (.aload_n 0, 1) := by decide +kernel
theorem dX2_readForDay_34 : decode cX2_readForDay 34 = .ok (.getfield 41, 3) := by decide +kernel
theorem dX2_readForDay_37 : decode cX2_readForDay 37 = .ok (.if_icmp .ge 70, 3) := by decide +kernel
theorem dX2_readForDay_40 : decode cX2_readForDay 40 = .ok (.aload_n 0, 1) := by decide +kernel
theorem dX2_readForDay_41 : decode cX2_readForDay 41 = .ok (.getfield 15, 3) := by decide +kernel
theorem dX2_readForDay_44 : decode cX2_readForDay 44 = .ok (.aload_n 0, 1) := by decide +kernel
theorem dX2_readForDay_45 : decode cX2_readForDay 45 = .ok (.getfield 47, 3) := by decide +kernel
theorem dX2_readForDay_48 : decode cX2_readForDay 48 = .ok (.iaload, 1) := by decide +kernel
theorem dX2_readForDay_49 : decode cX2_readForDay 49 = .ok (.aload_n 0, 1) := by decide +kernel
theorem dX2_readForDay_50 : decode cX2_readForDay 50 = .ok (.getfield 50, 3) := by decide +kernel
theorem dX2_readForDay_53 : decode cX2_readForDay 53 = .ok (.if_icmp .gt 54, 3) := by decide +kernel
theorem dX2_readForDay_56 : decode cX2_readForDay 56 = .ok (.aload_n 0, 1) := by decide +kernel
theorem dX2_readForDay_57 : decode cX2_readForDay 57 = .ok (.getfield 9, 3) := by decide +kernel
theorem dX2_readForDay_60 : decode cX2_readForDay 60 = .ok (.aload_n 0, 1) := by decide +kernel
theorem dX2_readForDay_61 : decode cX2_readForDay 61 = .ok (.getfield 47, 3) := by decide +kernel
theorem dX2_readForDay_64 : decode cX2_readForDay 64 = .ok (.iaload, 1) := by decide +kernel
theorem dX2_readForDay_65 : decode cX2_readForDay 65 = .ok (.istore_n 3, 1) := by decide +kernel
theorem dX2_readForDay_66 : decode cX2_readForDay 66 = .ok (.aload_n 0, 1) := by decide +kernel
theorem dX2_readForDay_67 : decode cX2_readForDay 67 = .ok (.getfield 18, 3) := by decide +kernel
theorem dX2_readForDay_70 : decode cX2_readForDay 70 = .ok (.iload_n 3, 1) := by decide +kernel
theorem dX2_readForDay_71 : decode cX2_readForDay 71 = .ok (.aload_n 0, 1) := by decide +kernel
theorem dX2_readForDay_72 : decode cX2_readForDay 72 = .ok (.aload_n 1, 1) := by decide +kernel
theorem dX2_readForDay_73 : decode cX2_readForDay 73 = .ok (.iload_n 3, 1) := by decide +kernel
theorem dX2_readForDay_74 : decode cX2_readForDay 74 = .ok (.aaload, 1) := by decide +kernel
theorem dX2_readForDay_75 : decode cX2_readForDay 75 = .ok (.invokevirtual 79, 3) := by decide +kernel
theorem dX2_readForDay_78 : decode cX2_readForDay 78 = .ok (.iastore, 1) := by decide +kernel
theorem dX2_readForDay_79 : decode cX2_readForDay 79 = .ok (.aload_n 0, 1) := by decide +kernel
theorem dX2_readForDay_80 : decode cX2_readForDay 80 = .ok (.dup, 1) := by decide +kernel
theorem dX2_readForDay_81 : decode cX2_readForDay 81 = .ok (.getfield 53, 3) := by decide +kernel
theorem dX2_readForDay_84 : decode cX2_readForDay 84 = .ok (.aload_n 0, 1) := by decide +kernel
theorem dX2_readForDay_85 : decode cX2_readForDay 85 = .ok (.getfield 18, 3) := by decide +kernel
theorem dX2_readForDay_88 : decode cX2_readForDay 88 = .ok (.iload_n 3, 1) := by decide +kernel
theorem dX2_readForDay_89 : decode cX2_readForDay 89 = .ok (.iaload, 1) := by decide +kernel
theorem dX2_readForDay_90 : decode cX2_readForDay 90 = .ok (.iadd, 1) := by decide +kernel
theorem dX2_readForDay_91 : decode cX2_readForDay 91 = .ok (.putfield 53, 3) := by decide +kernel
theorem dX2_readForDay_94 : decode cX2_readForDay 94 = .ok (.aload_n 0, 1) := by decide +kernel
theorem dX2_readForDay_95 : decode cX2_readForDay 95 = .ok (.dup, 1) := by decide +kernel
theorem dX2_readForDay_96 : decode cX2_readForDay 96 = .ok (.getfield 47, 3) := by decide +kernel
theorem dX2_readForDay_99 : decode cX2_readForDay 99 = .ok (.iconst 1, 1) := by decide +kernel
theorem dX2_readForDay_100 : decode cX2_readForDay 100 = .ok (.iadd, 1) := by decide +kernel
theorem dX2_readForDay_101 : decode cX2_readForDay 101 = .ok (.putfield 47, 3) := by decide +kernel
theorem dX2_readForDay_104 : decode cX2_readForDay 104 = .ok (.goto (-75), 3) := by decide +kernel
theorem dX2_readForDay_107 : decode cX2_readForDay 107 = .ok (.aload_n 0, 1) := by decide +kernel
theorem dX2_readForDay_108 : decode cX2_readForDay 108 = .ok (.getfield 47, 3) := by decide +kernel
theorem dX2_readForDay_111 : decode cX2_readForDay 111 = .ok (.iload_n 2, 1) := by decide +kernel
theorem dX2_readForDay_112 : decode cX2_readForDay 112 = .ok (.isub, 1) := by decide +kernel
theorem dX2_readForDay_113 : decode cX2_readForDay 113 = .ok (.ireturn, 1) := by decide +kernel
theorem dX2_daysLeft_0 : decode cX2_daysLeft 0 = .ok (.iconst 0, 1) := by decide +kernel
theorem dX2_daysLeft_1 : decode cX2_daysLeft 1 = .ok (.istore_n 1, 1) := by decide +kernel
theorem dX2_daysLeft_2 : decode cX2_daysLeft 2 = .ok (.aload_n 0, 1) := by decide +kernel
theorem dX2_daysLeft_3 : decode cX2_daysLeft 3 = .ok (.getfield 50, 3) := by decide +kernel
theorem dX2_daysLeft_6 : decode cX2_daysLeft 6 = .ok (.istore_n 2, 1) := by decide +kernel
theorem dX2_daysLeft_7 : decode cX2_daysLeft 7 = .ok (.iload_n 2, 1) := by decide +kernel
theorem dX2_daysLeft_8 : decode cX2_daysLeft 8 = .ok (.aload_n 0, 1) := by decide +kernel
theorem dX2_daysLeft_9 : decode cX2_daysLeft 9 = .ok (.getfield 44, 3) := by decide +kernel
theorem dX2_daysLeft_12 : decode cX2_daysLeft 12 = .ok (.if_icmp .ge 24, 3) := by decide +kernel
theorem dX2_daysLeft_15 : decode cX2_daysLeft 15 = .ok (.iload_n 1, 1) := by decide +kernel
theorem dX2_daysLeft_16 : decode cX2_daysLeft 16 = .ok (.sipush 10000, 3) := by decide +kernel
theorem dX2_daysLeft_19 : decode cX2_daysLeft 19 = .ok (.if_icmp .ge 17, 3) := by decide +kernel
theorem dX2_daysLeft_22 : decode cX2_daysLeft 22 = .ok (.iload_n 2, 1) := by decide +kernel
theorem dX2_daysLeft_23 : decode cX2_daysLeft 23 = .ok (.aload_n 0, 1) := by decide +kernel
theorem dX2_daysLeft_24 : decode cX2_daysLeft 24 = .ok (.iload_n 2, 1) := by decide +kernel
theorem dX2_daysLeft_25 : decode cX2_daysLeft 25 = .ok (.invokevirtual 68, 3) := by decide +kernel
theorem dX2_daysLeft_28 : decode cX2_daysLeft 28 = .ok (.iadd, 1) := by decide +kernel
theorem dX2_daysLeft_29 : decode cX2_daysLeft 29 = .ok (.istore_n 2, 1) := by decide +kernel
theorem dX2_daysLeft_30 : decode cX2_daysLeft 30 = .ok (.iinc 1 1, 3) := by decide +kernel
theorem dX2_daysLeft_33 : decode cX2_daysLeft 33 = .ok (.goto (-26), 3) := by decide +kernel
theorem dX2_daysLeft_36 : decode cX2_daysLeft 36 = .ok (.iload_n 1, 1) := by decide +kernel
theorem dX2_daysLeft_37 : decode cX2_daysLeft 37 = .ok (.ireturn, 1) := by decide +kernel
theorem dX2_markFor_0 : decode cX2_markFor 0 = .ok (.aload_n 1, 1) := by decide +kernel
theorem dX2_markFor_1 : decode cX2_markFor 1 = .ok (.getfield 83, 3) := by decide +kernel
theorem dX2_markFor_4 : decode cX2_markFor 4 = .ok (.aload_n 0, 1) := by decide +kernel
theorem dX2_markFor_5 : decode cX2_markFor 5 = .ok (.getfield 34, 3) := by decide +kernel
theorem dX2_markFor_8 : decode cX2_markFor 8 = .ok (.iadd, 1) := by decide +kernel
theorem dX2_markFor_9 : decode cX2_markFor 9 = .ok (.bipush 10, 2) := by decide +kernel
theorem dX2_markFor_11 : decode cX2_markFor 11 = .ok (.iadd, 1) := by decide +kernel
theorem dX2_markFor_12 : decode cX2_markFor 12 = .ok (.iconst 2, 1) := by decide +kernel
theorem dX2_markFor_13 : decode cX2_markFor 13 = .ok (.aload_n 0, 1) := by decide +kernel
theorem dX2_markFor_14 : decode cX2_markFor 14 = .ok (.getfield 31, 3) := by decide +kernel
theorem dX2_markFor_17 : decode cX2_markFor 17 = .ok (.aload_n 1, 1) := by decide +kernel
theorem dX2_markFor_18 : decode cX2_markFor 18 = .ok (.getfield 88, 3) := by decide +kernel
theorem dX2_markFor_21 : decode cX2_markFor 21 = .ok (.isub, 1) := by decide +kernel
theorem dX2_markFor_22 : decode cX2_markFor 22 = .ok (.invokestatic 91, 3) := by decide +kernel
theorem dX2_markFor_25 : decode cX2_markFor 25 = .ok (.imul, 1) := by decide +kernel
theorem dX2_markFor_26 : decode cX2_markFor 26 = .ok (.isub, 1) := by decide +kernel
theorem dX2_markFor_27 : decode cX2_markFor 27 = .ok (.istore_n 2, 1) := by decide +kernel
theorem dX2_markFor_28 : decode cX2_markFor 28 = .ok (.iconst 0, 1) := by decide +kernel
theorem dX2_markFor_29 : decode cX2_markFor 29 = .ok (.bipush 99, 2) := by decide +kernel
theorem dX2_markFor_31 : decode cX2_markFor 31 = .ok (.iload_n 2, 1) := by decide +kernel
theorem dX2_markFor_32 : decode cX2_markFor 32 = .ok (.invokestatic 76, 3) := by decide +kernel
theorem dX2_markFor_35 : decode cX2_markFor 35 = .ok (.invokestatic 62, 3) := by decide +kernel
theorem dX2_markFor_38 : decode cX2_markFor 38 = .ok (.ireturn, 1) := by decide +kernel
theorem dX2_meanOfTenfoldMarks_0 : decode cX2_meanOfTenfoldMarks 0 = .ok (.aload_n 0, 1) := by decide +kernel
theorem dX2_meanOfTenfoldMarks_1 : decode cX2_meanOfTenfoldMarks 1 = .ok (.getfield 47, 3) := by decide +kernel
theorem dX2_meanOfTenfoldMarks_4 : decode cX2_meanOfTenfoldMarks 4 = .ok (.ifCond .ne 7, 3) := by decide +kernel
theorem dX2_meanOfTenfoldMarks_7 : decode cX2_meanOfTenfoldMarks 7 = .ok (.iconst 0, 1) := by decide +kernel
theorem dX2_meanOfTenfoldMarks_8 : decode cX2_meanOfTenfoldMarks 8 = .ok (.goto 15, 3) := by decide +kernel
theorem dX2_meanOfTenfoldMarks_11 : decode cX2_meanOfTenfoldMarks 11 = .ok (.bipush 10, 2) := by decide +kernel
theorem dX2_meanOfTenfoldMarks_13 : decode cX2_meanOfTenfoldMarks 13 = .ok (.aload_n 0, 1) := by decide +kernel
theorem dX2_meanOfTenfoldMarks_14 : decode cX2_meanOfTenfoldMarks 14 = .ok (.getfield 53, 3) := by decide +kernel
theorem dX2_meanOfTenfoldMarks_17 : decode cX2_meanOfTenfoldMarks 17 = .ok (.imul, 1) := by decide +kernel
theorem dX2_meanOfTenfoldMarks_18 : decode cX2_meanOfTenfoldMarks 18 = .ok (.aload_n 0, 1) := by decide +kernel
theorem dX2_meanOfTenfoldMarks_19 : decode cX2_meanOfTenfoldMarks 19 = .ok (.getfield 47, 3) := by decide +kernel
theorem dX2_meanOfTenfoldMarks_22 : decode cX2_meanOfTenfoldMarks 22 = .ok (.idiv, 1) := by decide +kernel
theorem dX2_meanOfTenfoldMarks_23 : decode cX2_meanOfTenfoldMarks 23 = .ok (.ireturn, 1) := by decide +kernel
theorem dX2_pointsLeft_0 : decode cX2_pointsLeft 0 = .ok (.bipush 12, 2) := by decide +kernel
theorem dX2_pointsLeft_2 : decode cX2_pointsLeft 2 = .ok (.istore_n 1, 1) := by decide +kernel
theorem dX2_pointsLeft_3 : decode cX2_pointsLeft 3 = .ok (.iconst 0, 1) := by decide +kernel
theorem dX2_pointsLeft_4 : decode cX2_pointsLeft 4 = .ok (.istore_n 2, 1) := by decide +kernel
theorem dX2_pointsLeft_5 : decode cX2_pointsLeft 5 = .ok (.iload_n 2, 1) := by decide +kernel
theorem dX2_pointsLeft_6 : decode cX2_pointsLeft 6 = .ok (.bipush 16, 2) := by decide +kernel
theorem dX2_pointsLeft_8 : decode cX2_pointsLeft 8 = .ok (.if_icmp .ge 18, 3) := by decide +kernel
theorem dX2_pointsLeft_11 : decode cX2_pointsLeft 11 = .ok (.iload_n 1, 1) := by decide +kernel
theorem dX2_pointsLeft_12 : decode cX2_pointsLeft 12 = .ok (.aload_n 0, 1) := by decide +kernel
theorem dX2_pointsLeft_13 : decode cX2_pointsLeft 13 = .ok (.getfield 21, 3) := by decide +kernel
theorem dX2_pointsLeft_16 : decode cX2_pointsLeft 16 = .ok (.iload_n 2, 1) := by decide +kernel
theorem dX2_pointsLeft_17 : decode cX2_pointsLeft 17 = .ok (.iaload, 1) := by decide +kernel
theorem dX2_pointsLeft_18 : decode cX2_pointsLeft 18 = .ok (.isub, 1) := by decide +kernel
theorem dX2_pointsLeft_19 : decode cX2_pointsLeft 19 = .ok (.istore_n 1, 1) := by decide +kernel
theorem dX2_pointsLeft_20 : decode cX2_pointsLeft 20 = .ok (.iinc 2 1, 3) := by decide +kernel
theorem dX2_pointsLeft_23 : decode cX2_pointsLeft 23 = .ok (.goto (-18), 3) := by decide +kernel
theorem dX2_pointsLeft_26 : decode cX2_pointsLeft 26 = .ok (.iload_n 1, 1) := by decide +kernel
theorem dX2_pointsLeft_27 : decode cX2_pointsLeft 27 = .ok (.ireturn, 1) := by decide +kernel
theorem dX2_hasOrder_0 : decode cX2_hasOrder 0 = .ok (.aload_n 0, 1) := by decide +kernel
theorem dX2_hasOrder_1 : decode cX2_hasOrder 1 = .ok (.getfield 56, 3) := by decide +kernel
theorem dX2_hasOrder_4 : decode cX2_hasOrder 4 = .ok (.ifCond .le 7, 3) := by decide +kernel
theorem dX2_hasOrder_7 : decode cX2_hasOrder 7 = .ok (.iconst 1, 1) := by decide +kernel
theorem dX2_hasOrder_8 : decode cX2_hasOrder 8 = .ok (.goto 4, 3) := by decide +kernel
theorem dX2_hasOrder_11 : decode cX2_hasOrder 11 = .ok (.iconst 0, 1) := by decide +kernel
theorem dX2_hasOrder_12 : decode cX2_hasOrder 12 = .ok (.ireturn, 1) := by decide +kernel
theorem dX2_firstIn_0 : decode cX2_firstIn 0 = .ok (.iconst 0, 1) := by decide +kernel
theorem dX2_firstIn_1 : decode cX2_firstIn 1 = .ok (.istore_n 2, 1) := by decide +kernel
theorem dX2_firstIn_2 : decode cX2_firstIn 2 = .ok (.iload_n 2, 1) := by decide +kernel
theorem dX2_firstIn_3 : decode cX2_firstIn 3 = .ok (.aload_n 0, 1) := by decide +kernel
theorem dX2_firstIn_4 : decode cX2_firstIn 4 = .ok (.getfield 56, 3) := by decide +kernel
theorem dX2_firstIn_7 : decode cX2_firstIn 7 = .ok (.if_icmp .ge 29, 3) := by decide +kernel
theorem dX2_firstIn_10 : decode cX2_firstIn 10 = .ok (.iload_n 1, 1) := by decide +kernel
theorem dX2_firstIn_11 : decode cX2_firstIn 11 = .ok (.aload_n 0, 1) := by decide +kernel
theorem dX2_firstIn_12 : decode cX2_firstIn 12 = .ok (.getfield 24, 3) := by decide +kernel
theorem dX2_firstIn_15 : decode cX2_firstIn 15 = .ok (.iload_n 2, 1) := by decide +kernel
theorem dX2_firstIn_16 : decode cX2_firstIn 16 = .ok (.iaload, 1) := by decide +kernel
theorem dX2_firstIn_17 : decode cX2_firstIn 17 = .ok (.invokestatic 94, 3) := by decide +kernel
theorem dX2_firstIn_20 : decode cX2_firstIn 20 = .ok (.ifCond .eq 10, 3) := by decide +kernel
theorem dX2_firstIn_23 : decode cX2_firstIn 23 = .ok (.aload_n 0, 1) := by decide +kernel
theorem dX2_firstIn_24 : decode cX2_firstIn 24 = .ok (.getfield 24, 3) := by decide +kernel
theorem dX2_firstIn_27 : decode cX2_firstIn 27 = .ok (.iload_n 2, 1) := by decide +kernel
theorem dX2_firstIn_28 : decode cX2_firstIn 28 = .ok (.iaload, 1) := by decide +kernel
theorem dX2_firstIn_29 : decode cX2_firstIn 29 = .ok (.ireturn, 1) := by decide +kernel
theorem dX2_firstIn_30 : decode cX2_firstIn 30 = .ok (.iinc 2 1, 3) := by decide +kernel
theorem dX2_firstIn_33 : decode cX2_firstIn 33 = .ok (.goto (-31), 3) := by decide +kernel
theorem dX2_firstIn_36 : decode cX2_firstIn 36 = .ok (.iconst (-1), 1) := by decide +kernel
theorem dX2_firstIn_37 : decode cX2_firstIn 37 = .ok (.ireturn, 1) := by decide +kernel
theorem dX3_init_0 : decode cX3_init 0 = .ok (.aload_n 0, 1) := by decide +kernel
theorem dX3_init_1 : decode cX3_init 1 = .ok (.invokespecial 1, 3) := by decide +kernel
theorem dX3_init_4 : decode cX3_init 4 = .ok (.aload_n 0, 1) := by decide +kernel
theorem dX3_init_5 : decode cX3_init 5 = .ok (.bipush 7, 2) := by decide +kernel
theorem dX3_init_7 : decode cX3_init 7 = .ok (.putfield 7, 3) := by decide +kernel
theorem dX3_init_10 : decode cX3_init 10 = .ok (.aload_n 0, 1) := by decide +kernel
theorem dX3_init_11 : decode cX3_init 11 = .ok (.bipush 100, 2) := by decide +kernel
theorem dX3_init_13 : decode cX3_init 13 = .ok (.putfield 13, 3) := by decide +kernel
theorem dX3_init_16 : decode cX3_init 16 = .ok (.aload_n 0, 1) := by decide +kernel
theorem dX3_init_17 : decode cX3_init 17 = .ok (.sipush 800, 3) := by decide +kernel
theorem dX3_init_20 : decode cX3_init 20 = .ok (.putfield 16, 3) := by decide +kernel
theorem dX3_init_23 : decode cX3_init 23 = .ok (.aload_n 0, 1) := by decide +kernel
theorem dX3_init_24 : decode cX3_init 24 = .ok (.bipush 10, 2) := by decide +kernel
theorem dX3_init_26 : decode cX3_init 26 = .ok (.putfield 19, 3) := by decide +kernel
theorem dX3_init_29 : decode cX3_init 29 = .ok (.return_, 1) := by decide +kernel
theorem dX3_set_0 : decode cX3_set 0 = .ok (.aload_n 0, 1) := by decide +kernel
theorem dX3_set_1 : decode cX3_set 1 = .ok (.iload_n 1, 1) := by decide +kernel
theorem dX3_set_2 : decode cX3_set 2 = .ok (.putfield 7, 3) := by decide +kernel
theorem dX3_set_5 : decode cX3_set 5 = .ok (.aload_n 0, 1) := by decide +kernel
theorem dX3_set_6 : decode cX3_set 6 = .ok (.iload_n 2, 1) := by decide +kernel
theorem dX3_set_7 : decode cX3_set 7 = .ok (.putfield 13, 3) := by decide +kernel
theorem dX3_set_10 : decode cX3_set 10 = .ok (.aload_n 0, 1) := by decide +kernel
theorem dX3_set_11 : decode cX3_set 11 = .ok (.iload_n 3, 1) := by decide +kernel
theorem dX3_set_12 : decode cX3_set 12 = .ok (.putfield 16, 3) := by decide +kernel
theorem dX3_set_15 : decode cX3_set 15 = .ok (.aload_n 0, 1) := by decide +kernel
theorem dX3_set_16 : decode cX3_set 16 = .ok (.iload 4, 2) := by decide +kernel
theorem dX3_set_18 : decode cX3_set 18 = .ok (.putfield 19, 3) := by decide +kernel
theorem dX3_set_21 : decode cX3_set 21 = .ok (.return_, 1) := by decide +kernel
theorem dX3_admit_0 : decode cX3_admit 0 = .ok (.aload_n 0, 1) := by decide +kernel
theorem dX3_admit_1 : decode cX3_admit 1 = .ok (.getfield 7, 3) := by decide +kernel
theorem dX3_admit_4 : decode cX3_admit 4 = .ok (.iload_n 1, 1) := by decide +kernel
theorem dX3_admit_5 : decode cX3_admit 5 = .ok (.invokestatic 22, 3) := by decide +kernel
theorem dX3_admit_8 : decode cX3_admit 8 = .ok (.ifCond .eq 22, 3) := by decide +kernel
theorem dX3_admit_11 : decode cX3_admit 11 = .ok (.iload_n 2, 1) := by decide +kernel
theorem dX3_admit_12 : decode cX3_admit 12 = .ok (.aload_n 0, 1) := by decide +kernel
theorem dX3_admit_13 : decode cX3_admit 13 = .ok (.getfield 13, 3) := by decide +kernel
theorem dX3_admit_16 : decode cX3_admit 16 = .ok (.aload_n 0, 1) := by decide +kernel
theorem dX3_admit_17 : decode cX3_admit 17 = .ok (.getfield 16, 3) := by decide +kernel
theorem dX3_admit_20 : decode cX3_admit 20 = .ok (.invokestatic 28, 3) := by decide +kernel
theorem dX3_admit_23 : decode cX3_admit 23 = .ok (.ifCond .eq 7, 3) := by decide +kernel
theorem dX3_admit_26 : decode cX3_admit 26 = .ok (.iconst 1, 1) := by decide +kernel
theorem dX3_admit_27 : decode cX3_admit 27 = .ok (.goto 4, 3) := by decide +kernel
theorem dX3_admit_30 : decode cX3_admit 30 = .ok (.iconst 0, 1) := by decide +kernel
theorem dX3_admit_31 : decode cX3_admit 31 = .ok (.ireturn, 1) := by decide +kernel
theorem dX4_init_0 : decode cX4_init 0 = .ok (.aload_n 0, 1) := by decide +kernel
theorem dX4_init_1 : decode cX4_init 1 = .ok (.invokespecial 1, 3) := by decide +kernel
theorem dX4_init_4 : decode cX4_init 4 = .ok (.aload_n 0, 1) := by decide +kernel
theorem dX4_init_5 : decode cX4_init 5 = .ok (.iconst 5, 1) := by decide +kernel
theorem dX4_init_6 : decode cX4_init 6 = .ok (.anewarray 9, 3) := by decide +kernel
theorem dX4_init_9 : decode cX4_init 9 = .ok (.putfield 11, 3) := by decide +kernel
theorem dX4_init_12 : decode cX4_init 12 = .ok (.aload_n 0, 1) := by decide +kernel
theorem dX4_init_13 : decode cX4_init 13 = .ok (.bipush 16, 2) := by decide +kernel
theorem dX4_init_15 : decode cX4_init 15 = .ok (.anewarray 15, 3) := by decide +kernel
theorem dX4_init_18 : decode cX4_init 18 = .ok (.putfield 17, 3) := by decide +kernel
theorem dX4_init_21 : decode cX4_init 21 = .ok (.aload_n 0, 1) := by decide +kernel
theorem dX4_init_22 : decode cX4_init 22 = .ok (.iconst 5, 1) := by decide +kernel
theorem dX4_init_23 : decode cX4_init 23 = .ok (.anewarray 21, 3) := by decide +kernel
theorem dX4_init_26 : decode cX4_init 26 = .ok (.putfield 23, 3) := by decide +kernel
theorem dX4_init_29 : decode cX4_init 29 = .ok (.aload_n 0, 1) := by decide +kernel
theorem dX4_init_30 : decode cX4_init 30 = .ok (.new 27, 3) := by decide +kernel
theorem dX4_init_33 : decode cX4_init 33 = .ok (.dup, 1) := by decide +kernel
