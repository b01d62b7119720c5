theorem wsL_law_x0 : ∀ w ∈ (vx_atS RX4 61 "java/lang/IllegalStateException" ["java/lang/RuntimeException", "java/lang/Exception"]).filter goodWord, w ∈ lw_tbl := by decide +kernel
theorem wsL_law_x1 : ∀ w ∈ (vx_atS RX4 72 "java/lang/IndexOutOfBoundsException" ["java/lang/RuntimeException", "java/lang/Exception"]).filter goodWord, w ∈ lw_tbl := by decide +kernel
theorem wsL_law_x2 : ∀ w ∈ (vx_atS RX4 84 "java/lang/IllegalArgumentException" ["java/lang/RuntimeException", "java/lang/Exception"]).filter goodWord, w ∈ lw_tbl := by decide +kernel
theorem wsL_law_in : ∀ w ∈ wsL_law, w ∈ lw_tbl := fun w h => (List.mem_append.mp h).elim (fun h => (List.mem_append.mp h).elim (fun h => (List.mem_append.mp h).elim (fun h => wsL_law_in0 w h) (fun h => wsL_law_x0 w h)) (fun h => wsL_law_x1 w h)) (fun h => wsL_law_x2 w h)
theorem inlX0 : ∀ w ∈ wsX00, w ∈ wsL_law := fun _ h => List.mem_append_left _ (List.mem_append_left _ (List.mem_append_left _ (List.mem_append_left _ (List.mem_append_left _ (List.mem_append_left _ (List.mem_append_left _ (List.mem_append_left _ (List.mem_append_right _ h))))))))
theorem inX0 : ∀ w ∈ wsX00, w ∈ lw_tbl := fun w h => wsL_law_in w (inlX0 w h)
theorem inlX1 : ∀ w ∈ wsX10, w ∈ wsL_law := fun _ h => List.mem_append_left _ (List.mem_append_left _ (List.mem_append_left _ (List.mem_append_left _ (List.mem_append_left _ (List.mem_append_left _ (List.mem_append_left _ (List.mem_append_left _ (List.mem_append_left _ (List.mem_append_right _ h)))))))))
theorem inX1 : ∀ w ∈ wsX10, w ∈ lw_tbl := fun w h => wsL_law_in w (inlX1 w h)
theorem inlX2 : ∀ w ∈ wsX20, w ∈ wsL_law := fun _ h => List.mem_append_left _ (List.mem_append_left _ (List.mem_append_left _ (List.mem_append_left _ (List.mem_append_left _ (List.mem_append_left _ (List.mem_append_left _ (List.mem_append_right _ h)))))))
theorem inX2 : ∀ w ∈ wsX20, w ∈ lw_tbl := fun w h => wsL_law_in w (inlX2 w h)
theorem inlX3 : ∀ w ∈ wsX30, w ∈ wsL_law := fun _ h => List.mem_append_left _ (List.mem_append_left _ (List.mem_append_left _ (List.mem_append_left _ (List.mem_append_left _ (List.mem_append_left _ (List.mem_append_left _ (List.mem_append_left _ (List.mem_append_left _ (List.mem_append_left _ (List.mem_append_right _ h))))))))))
theorem inX3 : ∀ w ∈ wsX30, w ∈ lw_tbl := fun w h => wsL_law_in w (inlX3 w h)
theorem inlX4 : ∀ w ∈ wsX40, w ∈ wsL_law := fun _ h => List.mem_append_left _ (List.mem_append_left _ (List.mem_append_left _ (List.mem_append_left _ (List.mem_append_left _ (List.mem_append_left _ (List.mem_append_left _ (List.mem_append_left _ (List.mem_append_left _ (List.mem_append_left _ (List.mem_append_left _ (List.mem_append_left _ (List.mem_append_right _ h))))))))))))
theorem inX4 : ∀ w ∈ wsX40, w ∈ lw_tbl := fun w h => wsL_law_in w (inlX4 w h)
theorem inlX5 : ∀ w ∈ wsX50, w ∈ wsL_law := fun _ h => List.mem_append_left _ (List.mem_append_left _ (List.mem_append_left _ (List.mem_append_left _ (List.mem_append_left _ (List.mem_append_left _ (List.mem_append_left _ (List.mem_append_left _ (List.mem_append_left _ (List.mem_append_left _ (List.mem_append_left _ (List.mem_append_right _ h)))))))))))
theorem inX5 : ∀ w ∈ wsX50, w ∈ lw_tbl := fun w h => wsL_law_in w (inlX5 w h)
theorem inJx145de : ∀ w ∈ wsJx145de0, w ∈ lw_tbl := by decide +kernel
theorem inJx8e188 : ∀ w ∈ wsJx8e1880, w ∈ lw_tbl := by decide +kernel
theorem inJxb160c : ∀ w ∈ wsJxb160c0, w ∈ lw_tbl := by decide +kernel
theorem inJxabbfe : ∀ w ∈ wsJxabbfe0, w ∈ lw_tbl := by decide +kernel
theorem inlJ6 : ∀ w ∈ wsJ60, w ∈ wsL_law := fun _ h => List.mem_append_left _ (List.mem_append_left _ (List.mem_append_left _ (List.mem_append_left _ (List.mem_append_right _ h))))
theorem inJ6 : ∀ w ∈ wsJ60, w ∈ lw_tbl := fun w h => wsL_law_in w (inlJ6 w h)
theorem inJxab1ab : ∀ w ∈ wsJxab1ab0, w ∈ lw_tbl := by decide +kernel
theorem inJ9 : ∀ w ∈ wsJ90, w ∈ lw_tbl := by decide +kernel
theorem inJxd2413 : ∀ w ∈ wsJxd24130, w ∈ lw_tbl := by decide +kernel
theorem inJ0 : ∀ w ∈ wsJ00, w ∈ lw_tbl := by decide +kernel
theorem inJ10 : ∀ w ∈ wsJ100, w ∈ lw_tbl := by decide +kernel
theorem inJxfd54e : ∀ w ∈ wsJxfd54e0, w ∈ lw_tbl := by decide +kernel
theorem inJx3cf43 : ∀ w ∈ wsJx3cf430, w ∈ lw_tbl := by decide +kernel
theorem inJxa1e45 : ∀ w ∈ wsJxa1e450, w ∈ lw_tbl := by decide +kernel
theorem inJxc12de : ∀ w ∈ wsJxc12de0, w ∈ lw_tbl := by decide +kernel
theorem inlJx35411 : ∀ w ∈ wsJx354110, w ∈ wsL_law := fun _ h => List.mem_append_left _ (List.mem_append_left _ (List.mem_append_left _ (List.mem_append_left _ (List.mem_append_left _ (List.mem_append_right _ h)))))
theorem inJx35411 : ∀ w ∈ wsJx354110, w ∈ lw_tbl := fun w h => wsL_law_in w (inlJx35411 w h)
theorem inlJx4a65c : ∀ w ∈ wsJx4a65c0, w ∈ wsL_law := fun _ h => List.mem_append_left _ (List.mem_append_left _ (List.mem_append_left _ (List.mem_append_left _ (List.mem_append_left _ (List.mem_append_left _ (List.mem_append_right _ h))))))
theorem inJx4a65c : ∀ w ∈ wsJx4a65c0, w ∈ lw_tbl := fun w h => wsL_law_in w (inlJx4a65c w h)
theorem inJ7 : ∀ w ∈ wsJ70, w ∈ lw_tbl := by decide +kernel
theorem inJx5ef63 : ∀ w ∈ wsJx5ef630, w ∈ lw_tbl := by decide +kernel
theorem inJx4d0d8 : ∀ w ∈ wsJx4d0d80, w ∈ lw_tbl := by decide +kernel
theorem inJxbd725 : ∀ w ∈ wsJxbd7250, w ∈ lw_tbl := by decide +kernel
theorem inJ15 : ∀ w ∈ wsJ150, w ∈ lw_tbl := by decide +kernel
theorem inJxf0a74 : ∀ w ∈ wsJxf0a740, w ∈ lw_tbl := by decide +kernel
theorem inJxa66e6 : ∀ w ∈ wsJxa66e60, w ∈ lw_tbl := by decide +kernel
theorem inJ8 : ∀ w ∈ wsJ80, w ∈ lw_tbl := by decide +kernel
theorem inJ3 : ∀ w ∈ wsJ30, w ∈ lw_tbl := by decide +kernel
theorem dX0_init_0 : decode cX0_init 0 = .ok (.aload_n 0, 1) := by decide +kernel
theorem dX0_init_1 : decode cX0_init 1 = .ok (.invokespecial 3, 3) := by decide +kernel
theorem dX0_init_4 : decode cX0_init 4 = .ok (.aload_n 0, 1) := by decide +kernel
theorem dX0_init_5 : decode cX0_init 5 = .ok (.iconst (-1), 1) := by decide +kernel
theorem dX0_init_6 : decode cX0_init 6 = .ok (.putfield 9, 3) := by decide +kernel
theorem dX0_init_9 : decode cX0_init 9 = .ok (.return_, 1) := by decide +kernel
theorem dX0_describe_0 : decode cX0_describe 0 = .ok (.aload_n 0, 1) := by decide +kernel
theorem dX0_describe_1 : decode cX0_describe 1 = .ok (.iload_n 1, 1) := by decide +kernel
theorem dX0_describe_2 : decode cX0_describe 2 = .ok (.putfield 15, 3) := by decide +kernel
theorem dX0_describe_5 : decode cX0_describe 5 = .ok (.aload_n 0, 1) := by decide +kernel
theorem dX0_describe_6 : decode cX0_describe 6 = .ok (.iload_n 2, 1) := by decide +kernel
theorem dX0_describe_7 : decode cX0_describe 7 = .ok (.putfield 18, 3) := by decide +kernel
theorem dX0_describe_10 : decode cX0_describe 10 = .ok (.aload_n 0, 1) := by decide +kernel
theorem dX0_describe_11 : decode cX0_describe 11 = .ok (.iload_n 3, 1) := by decide +kernel
theorem dX0_describe_12 : decode cX0_describe 12 = .ok (.putfield 21, 3) := by decide +kernel
theorem dX0_describe_15 : decode cX0_describe 15 = .ok (.aload_n 0, 1) := by decide +kernel
theorem dX0_describe_16 : decode cX0_describe 16 = .ok (.iload 4, 2) := by decide +kernel
theorem dX0_describe_18 : decode cX0_describe 18 = .ok (.putfield 24, 3) := by decide +kernel
theorem dX0_describe_21 : decode cX0_describe 21 = .ok (.aload_n 0, 1) := by decide +kernel
theorem dX0_describe_22 : decode cX0_describe 22 = .ok (.iload 5, 2) := by decide +kernel
theorem dX0_describe_24 : decode cX0_describe 24 = .ok (.putfield 27, 3) := by decide +kernel
theorem dX0_describe_27 : decode cX0_describe 27 = .ok (.aload_n 0, 1) := by decide +kernel
theorem dX0_describe_28 : decode cX0_describe 28 = .ok (.iload 6, 2) := by decide +kernel
theorem dX0_describe_30 : decode cX0_describe 30 = .ok (.putfield 30, 3) := by decide +kernel
theorem dX0_describe_33 : decode cX0_describe 33 = .ok (.return_, 1) := by decide +kernel
theorem dX0_sell_0 : decode cX0_sell 0 = .ok (.iload_n 1, 1) := by decide +kernel
theorem dX0_sell_1 : decode cX0_sell 1 = .ok (.aload_n 0, 1) := by decide +kernel
theorem dX0_sell_2 : decode cX0_sell 2 = .ok (.getfield 33, 3) := by decide +kernel
theorem dX0_sell_5 : decode cX0_sell 5 = .ok (.invokestatic 36, 3) := by decide +kernel
theorem dX0_sell_8 : decode cX0_sell 8 = .ok (.istore_n 2, 1) := by decide +kernel
theorem dX0_sell_9 : decode cX0_sell 9 = .ok (.aload_n 0, 1) := by decide +kernel
theorem dX0_sell_10 : decode cX0_sell 10 = .ok (.dup, 1) := by decide +kernel
theorem dX0_sell_11 : decode cX0_sell 11 = .ok (.getfield 33, 3) := by decide +kernel
theorem dX0_sell_14 : decode cX0_sell 14 = .ok (.iload_n 2, 1) := by decide +kernel
theorem dX0_sell_15 : decode cX0_sell 15 = .ok (.isub, 1) := by decide +kernel
theorem dX0_sell_16 : decode cX0_sell 16 = .ok (.putfield 33, 3) := by decide +kernel
theorem dX0_sell_19 : decode cX0_sell 19 = .ok (.aload_n 0, 1) := by decide +kernel
theorem dX0_sell_20 : decode cX0_sell 20 = .ok (.dup, 1) := by decide +kernel
theorem dX0_sell_21 : decode cX0_sell 21 = .ok (.getfield 42, 3) := by decide +kernel
theorem dX0_sell_24 : decode cX0_sell 24 = .ok (.iload_n 2, 1) := by decide +kernel
theorem dX0_sell_25 : decode cX0_sell 25 = .ok (.iadd, 1) := by decide +kernel
theorem dX0_sell_26 : decode cX0_sell 26 = .ok (.putfield 42, 3) := by decide +kernel
theorem dX0_sell_29 : decode cX0_sell 29 = .ok (.aload_n 0, 1) := by decide +kernel
theorem dX0_sell_30 : decode cX0_sell 30 = .ok (.dup, 1) := by decide +kernel
theorem dX0_sell_31 : decode cX0_sell 31 = .ok (.getfield 45, 3) := by decide +kernel
theorem dX0_sell_34 : decode cX0_sell 34 = .ok (.iload_n 1, 1) := by decide +kernel
theorem dX0_sell_35 : decode cX0_sell 35 = .ok (.iload_n 2, 1) := by decide +kernel
theorem dX0_sell_36 : decode cX0_sell 36 = .ok (.isub, 1) := by decide +kernel
theorem dX0_sell_37 : decode cX0_sell 37 = .ok (.iadd, 1) := by decide +kernel
theorem dX0_sell_38 : decode cX0_sell 38 = .ok (.putfield 45, 3) := by decide +kernel
theorem dX0_sell_41 : decode cX0_sell 41 = .ok (.iload_n 2, 1) := by decide +kernel
theorem dX0_sell_42 : decode cX0_sell 42 = .ok (.ireturn, 1) := by decide +kernel
theorem dX1_init_0 : decode cX1_init 0 = .ok (.aload_n 0, 1) := by decide +kernel
theorem dX1_init_1 : decode cX1_init 1 = .ok (.invokespecial 1, 3) := by decide +kernel
theorem dX1_init_4 : decode cX1_init 4 = .ok (.aload_n 0, 1) := by decide +kernel
theorem dX1_init_5 : decode cX1_init 5 = .ok (.bipush 100, 2) := by decide +kernel
theorem dX1_init_7 : decode cX1_init 7 = .ok (.putfield 7, 3) := by decide +kernel
theorem dX1_init_10 : decode cX1_init 10 = .ok (.return_, 1) := by decide +kernel
theorem dX2_init_0 : decode cX2_init 0 = .ok (.aload_n 0, 1) := by decide +kernel
theorem dX2_init_1 : decode cX2_init 1 = .ok (.invokespecial 3, 3) := by decide +kernel
theorem dX2_init_4 : decode cX2_init 4 = .ok (.aload_n 0, 1) := by decide +kernel
theorem dX2_init_5 : decode cX2_init 5 = .ok (.bipush 16, 2) := by decide +kernel
theorem dX2_init_7 : decode cX2_init 7 = .ok (.newarray .int, 2) := by decide +kernel
theorem dX2_init_9 : decode cX2_init 9 = .ok (.putfield 9, 3) := by decide +kernel
theorem dX2_init_12 : decode cX2_init 12 = .ok (.aload_n 0, 1) := by decide +kernel
theorem dX2_init_13 : decode cX2_init 13 = .ok (.bipush 16, 2) := by decide +kernel
theorem dX2_init_15 : decode cX2_init 15 = .ok (.newarray .int, 2) := by decide +kernel
theorem dX2_init_17 : decode cX2_init 17 = .ok (.putfield 15, 3) := by decide +kernel
theorem dX2_init_20 : decode cX2_init 20 = .ok (.aload_n 0, 1) := by decide +kernel
theorem dX2_init_21 : decode cX2_init 21 = .ok (.bipush 16, 2) := by decide +kernel
theorem dX2_init_23 : decode cX2_init 23 = .ok (.newarray .int, 2) := by decide +kernel
theorem dX2_init_25 : decode cX2_init 25 = .ok (.putfield 18, 3) := by decide +kernel
theorem dX2_init_28 : decode cX2_init 28 = .ok (.aload_n 0, 1) := by decide +kernel
theorem dX2_init_29 : decode cX2_init 29 = .ok (.bipush 16, 2) := by decide +kernel
theorem dX2_init_31 : decode cX2_init 31 = .ok (.newarray .int, 2) := by decide +kernel
theorem dX2_init_33 : decode cX2_init 33 = .ok (.putfield 21, 3) := by decide +kernel
theorem dX2_init_36 : decode cX2_init 36 = .ok (.aload_n 0, 1) := by decide +kernel
theorem dX2_init_37 : decode cX2_init 37 = .ok (.iconst 5, 1) := by decide +kernel
theorem dX2_init_38 : decode cX2_init 38 = .ok (.newarray .int, 2) := by decide +kernel
theorem dX2_init_40 : decode cX2_init 40 = .ok (.putfield 24, 3) := by decide +kernel
theorem dX2_init_43 : decode cX2_init 43 = .ok (.iconst 0, 1) := by decide +kernel
theorem dX2_init_44 : decode cX2_init 44 = .ok (.istore_n 1, 1) := by decide +kernel
theorem dX2_init_45 : decode cX2_init 45 = .ok (.iload_n 1, 1) := by decide +kernel
theorem dX2_init_46 : decode cX2_init 46 = .ok (.bipush 16, 2) := by decide +kernel
theorem dX2_init_48 : decode cX2_init 48 = .ok (.if_icmp .ge 16, 3) := by decide +kernel
theorem dX2_init_51 : decode cX2_init 51 = .ok (.aload_n 0, 1) := by decide +kernel
theorem dX2_init_52 : decode cX2_init 52 = .ok (.getfield 18, 3) := by decide +kernel
theorem dX2_init_55 : decode cX2_init 55 = .ok (.iload_n 1, 1) := by decide +kernel
theorem dX2_init_56 : decode cX2_init 56 = .ok (.iconst (-1), 1) := by decide +kernel
theorem dX2_init_57 : decode cX2_init 57 = .ok (.iastore, 1) := by decide +kernel
theorem dX2_init_58 : decode cX2_init 58 = .ok (.iinc 1 1, 3) := by decide +kernel
theorem dX2_init_61 : decode cX2_init 61 = .ok (.goto (-16), 3) := by decide +kernel
theorem dX2_init_64 : decode cX2_init 64 = .ok (.return_, 1) := by decide +kernel
theorem dX2_describe_0 : decode cX2_describe 0 = .ok (.aload_n 0, 1) := by decide +kernel
theorem dX2_describe_1 : decode cX2_describe 1 = .ok (.iload_n 1, 1) := by decide +kernel
theorem dX2_describe_2 : decode cX2_describe 2 = .ok (.putfield 27, 3) := by decide +kernel
theorem dX2_describe_5 : decode cX2_describe 5 = .ok (.aload_n 0, 1) := by decide +kernel
theorem dX2_describe_6 : decode cX2_describe 6 = .ok (.iload_n 2, 1) := by decide +kernel
theorem dX2_describe_7 : decode cX2_describe 7 = .ok (.putfield 31, 3) := by decide +kernel
theorem dX2_describe_10 : decode cX2_describe 10 = .ok (.aload_n 0, 1) := by decide +kernel
theorem dX2_describe_11 : decode cX2_describe 11 = .ok (.iload_n 3, 1) := by decide +kernel
theorem dX2_describe_12 : decode cX2_describe 12 = .ok (.putfield 34, 3) := by decide +kernel
theorem dX2_describe_15 : decode cX2_describe 15 = .ok (.return_, 1) := by decide +kernel
theorem dX2_clearYear_0 : decode cX2_clearYear 0 = .ok (.aload_n 0, 1) := by decide +kernel
theorem dX2_clearYear_1 : decode cX2_clearYear 1 = .ok (.iconst 0, 1) := by decide +kernel
theorem dX2_clearYear_2 : decode cX2_clearYear 2 = .ok (.putfield 37, 3) := by decide +kernel
theorem dX2_clearYear_5 : decode cX2_clearYear 5 = .ok (.aload_n 0, 1) := by decide +kernel
theorem dX2_clearYear_6 : decode cX2_clearYear 6 = .ok (.iconst 0, 1) := by decide +kernel
theorem dX2_clearYear_7 : decode cX2_clearYear 7 = .ok (.putfield 41, 3) := by decide +kernel
theorem dX2_clearYear_10 : decode cX2_clearYear 10 = .ok (.aload_n 0, 1) := by decide +kernel
theorem dX2_clearYear_11 : decode cX2_clearYear 11 = .ok (.iconst 0, 1) := by decide +kernel
theorem dX2_clearYear_12 : decode cX2_clearYear 12 = .ok (.putfield 44, 3) := by decide +kernel
theorem dX2_clearYear_15 : decode cX2_clearYear 15 = .ok (.aload_n 0, 1) := by decide +kernel
theorem dX2_clearYear_16 : decode cX2_clearYear 16 = .ok (.iconst 0, 1) := by decide +kernel
theorem dX2_clearYear_17 : decode cX2_clearYear 17 = .ok (.putfield 47, 3) := by decide +kernel
theorem dX2_clearYear_20 : decode cX2_clearYear 20 = .ok (.aload_n 0, 1) := by decide +kernel
theorem dX2_clearYear_21 : decode cX2_clearYear 21 = .ok (.iconst 0, 1) := by decide +kernel
theorem dX2_clearYear_22 : decode cX2_clearYear 22 = .ok (.putfield 50, 3) := by decide +kernel
theorem dX2_clearYear_25 : decode cX2_clearYear 25 = .ok (.aload_n 0, 1) := by decide +kernel
theorem dX2_clearYear_26 : decode cX2_clearYear 26 = .ok (.iconst 0, 1) := by decide +kernel
theorem dX2_clearYear_27 : decode cX2_clearYear 27 = .ok (.putfield 53, 3) := by decide +kernel
theorem dX2_clearYear_30 : decode cX2_clearYear 30 = .ok (.aload_n 0, 1) := by decide +kernel
theorem dX2_clearYear_31 : decode cX2_clearYear 31 = .ok (.iconst 0, 1) := by decide +kernel
theorem dX2_clearYear_32 : decode cX2_clearYear 32 = .ok (.putfield 56, 3) := by decide +kernel
theorem dX2_clearYear_35 : decode cX2_clearYear 35 = .ok (.iconst 0, 1) := by decide +kernel
theorem dX2_clearYear_36 : decode cX2_clearYear 36 = .ok (.istore_n 1, 1) := by decide +kernel
theorem dX2_clearYear_37 : decode cX2_clearYear 37 = .ok (.iload_n 1, 1) := by decide +kernel
theorem dX2_clearYear_38 : decode cX2_clearYear 38 = .ok (.bipush 16, 2) := by decide +kernel
theorem dX2_clearYear_40 : decode cX2_clearYear 40 = .ok (.if_icmp .ge 23, 3) := by decide +kernel
theorem dX2_clearYear_43 : decode cX2_clearYear 43 = .ok (.aload_n 0, 1) := by decide +kernel
theorem dX2_clearYear_44 : decode cX2_clearYear 44 = .ok (.getfield 18, 3) := by decide +kernel
theorem dX2_clearYear_47 : decode cX2_clearYear 47 = .ok (.iload_n 1, 1) := by decide +kernel
theorem dX2_clearYear_48 : decode cX2_clearYear 48 = .ok (.iconst (-1), 1) := by decide +kernel
theorem dX2_clearYear_49 : decode cX2_clearYear 49 = .ok (.iastore, 1) := by decide +kernel
theorem dX2_clearYear_50 : decode cX2_clearYear 50 = .ok (.aload_n 0, 1) := by decide +kernel
theorem dX2_clearYear_51 : decode cX2_clearYear 51 = .ok (.getfield 21, 3) := by decide +kernel
theorem dX2_clearYear_54 : decode cX2_clearYear 54 = .ok (.iload_n 1, 1) := by decide +kernel
theorem dX2_clearYear_55 : decode cX2_clearYear 55 = .ok (.iconst 0, 1) := by decide +kernel
theorem dX2_clearYear_56 : decode cX2_clearYear 56 = .ok (.iastore, 1) := by decide +kernel
theorem dX2_clearYear_57 : decode cX2_clearYear 57 = .ok (.iinc 1 1, 3) := by decide +kernel
theorem dX2_clearYear_60 : decode cX2_clearYear 60 = .ok (.goto (-23), 3) := by decide +kernel
theorem dX2_clearYear_63 : decode cX2_clearYear 63 = .ok (.return_, 1) := by decide +kernel
theorem dX2_isAgainst_0 : decode cX2_isAgainst 0 = .ok (.aload_n 0, 1) := by decide +kernel
theorem dX2_isAgainst_1 : decode cX2_isAgainst 1 = .ok (.getfield 59, 3) := by decide +kernel
theorem dX2_isAgainst_4 : decode cX2_isAgainst 4 = .ok (.iconst 1, 1) := by decide +kernel
theorem dX2_isAgainst_5 : decode cX2_isAgainst 5 = .ok (.iload_n 1, 1) := by decide +kernel
theorem dX2_isAgainst_6 : decode cX2_isAgainst 6 = .ok (.ishl, 1) := by decide +kernel
theorem dX2_isAgainst_7 : decode cX2_isAgainst 7 = .ok (.iand, 1) := by decide +kernel
theorem dX2_isAgainst_8 : decode cX2_isAgainst 8 = .ok (.ifCond .eq 7, 3) := by decide +kernel
theorem dX2_isAgainst_11 : decode cX2_isAgainst 11 = .ok (.iconst 1, 1) := by decide +kernel
theorem dX2_isAgainst_12 : decode cX2_isAgainst 12 = .ok (.goto 4, 3) := by decide +kernel
theorem dX2_isAgainst_15 : decode cX2_isAgainst 15 = .ok (.iconst 0, 1) := by decide +kernel
theorem dX2_isAgainst_16 : decode cX2_isAgainst 16 = .ok (.ireturn, 1) := by decide +kernel
theorem dX2_takeIn_0 : decode cX2_takeIn 0 = .ok (.aload_n 0, 1) := by decide +kernel
theorem dX2_takeIn_1 : decode cX2_takeIn 1 = .ok (.getfield 41, 3) := by decide +kernel
theorem dX2_takeIn_4 : decode cX2_takeIn 4 = .ok (.bipush 16, 2) := by decide +kernel
theorem dX2_takeIn_6 : decode cX2_takeIn 6 = .ok (.if_icmp .ge 46, 3) := by decide +kernel
theorem dX2_takeIn_9 : decode cX2_takeIn 9 = .ok (.aload_n 0, 1) := by decide +kernel
theorem dX2_takeIn_10 : decode cX2_takeIn 10 = .ok (.dup, 1) := by decide +kernel
theorem dX2_takeIn_11 : decode cX2_takeIn 11 = .ok (.getfield 44, 3) := by decide +kernel
theorem dX2_takeIn_14 : decode cX2_takeIn 14 = .ok (.iload_n 2, 1) := by decide +kernel
theorem dX2_takeIn_15 : decode cX2_takeIn 15 = .ok (.iadd, 1) := by decide +kernel
theorem dX2_takeIn_16 : decode cX2_takeIn 16 = .ok (.putfield 44, 3) := by decide +kernel
theorem dX2_takeIn_19 : decode cX2_takeIn 19 = .ok (.aload_n 0, 1) := by decide +kernel
theorem dX2_takeIn_20 : decode cX2_takeIn 20 = .ok (.getfield 9, 3) := by decide +kernel
theorem dX2_takeIn_23 : decode cX2_takeIn 23 = .ok (.aload_n 0, 1) := by decide +kernel
theorem dX2_takeIn_24 : decode cX2_takeIn 24 = .ok (.getfield 41, 3) := by decide +kernel
theorem dX2_takeIn_27 : decode cX2_takeIn 27 = .ok (.iload_n 1, 1) := by decide +kernel
theorem dX2_takeIn_28 : decode cX2_takeIn 28 = .ok (.iastore, 1) := by decide +kernel
theorem dX2_takeIn_29 : decode cX2_takeIn 29 = .ok (.aload_n 0, 1) := by decide +kernel
theorem dX2_takeIn_30 : decode cX2_takeIn 30 = .ok (.getfield 15, 3) := by decide +kernel
theorem dX2_takeIn_33 : decode cX2_takeIn 33 = .ok (.aload_n 0, 1) := by decide +kernel
theorem dX2_takeIn_34 : decode cX2_takeIn 34 = .ok (.getfield 41, 3) := by decide +kernel
theorem dX2_takeIn_37 : decode cX2_takeIn 37 = .ok (.aload_n 0, 1) := by decide +kernel
theorem dX2_takeIn_38 : decode cX2_takeIn 38 = .ok (.getfield 44, 3) := by decide +kernel
theorem dX2_takeIn_41 : decode cX2_takeIn 41 = .ok (.iastore, 1) := by decide +kernel
theorem dX2_takeIn_42 : decode cX2_takeIn 42 = .ok (.aload_n 0, 1) := by decide +kernel
theorem dX2_takeIn_43 : decode cX2_takeIn 43 = .ok (.dup, 1) := by decide +kernel
theorem dX2_takeIn_44 : decode cX2_takeIn 44 = .ok (.getfield 41, 3) := by decide +kernel
theorem dX2_takeIn_47 : decode cX2_takeIn 47 = .ok (.iconst 1, 1) := by decide +kernel
theorem dX2_takeIn_48 : decode cX2_takeIn 48 = .ok (.iadd, 1) := by decide +kernel
theorem dX2_takeIn_49 : decode cX2_takeIn 49 = .ok (.putfield 41, 3) := by decide +kernel
theorem dX2_takeIn_52 : decode cX2_takeIn 52 = .ok (.return_, 1) := by decide +kernel
theorem dX2_pagesLeft_0 : decode cX2_pagesLeft 0 = .ok (.aload_n 0, 1) := by decide +kernel
theorem dX2_pagesLeft_1 : decode cX2_pagesLeft 1 = .ok (.getfield 44, 3) := by decide +kernel
theorem dX2_pagesLeft_4 : decode cX2_pagesLeft 4 = .ok (.aload_n 0, 1) := by decide +kernel
theorem dX2_pagesLeft_5 : decode cX2_pagesLeft 5 = .ok (.getfield 50, 3) := by decide +kernel
theorem dX2_pagesLeft_8 : decode cX2_pagesLeft 8 = .ok (.isub, 1) := by decide +kernel
theorem dX2_pagesLeft_9 : decode cX2_pagesLeft 9 = .ok (.ireturn, 1) := by decide +kernel
theorem dX2_paceAfter_0 : decode cX2_paceAfter 0 = .ok (.bipush 10, 2) := by decide +kernel
theorem dX2_paceAfter_2 : decode cX2_paceAfter 2 = .ok (.aload_n 0, 1) := by decide +kernel
theorem dX2_paceAfter_3 : decode cX2_paceAfter 3 = .ok (.getfield 27, 3) := by decide +kernel
theorem dX2_paceAfter_6 : decode cX2_paceAfter 6 = .ok (.iconst 5, 1) := by decide +kernel
theorem dX2_paceAfter_7 : decode cX2_paceAfter 7 = .ok (.iload_n 1, 1) := by decide +kernel
theorem dX2_paceAfter_8 : decode cX2_paceAfter 8 = .ok (.sipush 500, 3) := by decide +kernel
theorem dX2_paceAfter_11 : decode cX2_paceAfter 11 = .ok (.idiv, 1) := by decide +kernel
theorem dX2_paceAfter_12 : decode cX2_paceAfter 12 = .ok (.imul, 1) := by decide +kernel
theorem dX2_paceAfter_13 : decode cX2_paceAfter 13 = .ok (.isub, 1) := by decide +kernel
theorem dX2_paceAfter_14 : decode cX2_paceAfter 14 = .ok (.invokestatic 62, 3) := by decide +kernel
theorem dX2_paceAfter_17 : decode cX2_paceAfter 17 = .ok (.ireturn, 1) := by decide +kernel
set_option maxRecDepth 20000 in
theorem ggX2_readForDay_X2_paceAfter : GoodIn wsX2_readForDay wsX2_paceAfter := goodIn_r _ [16, 17, 18, 19, 4, 20, 37, 38, 39, 40, 41, 42, 43, 44, 45, 46, 47, 48, 49, 50, 51, 52] (by decide +kernel) (by decide +kernel)
set_option maxRecDepth 20000 in
theorem gX2_readForDay_X2_paceAfter : GoodIn wsX2_readForDay (wsV RX2 68 RX2 yX2_paceAfter wsX2_paceAfter) := goodIn_app (goodIn_of _ (by decide +kernel)) ggX2_readForDay_X2_paceAfter
set_option maxRecDepth 20000 in
theorem ggX2_readForDay_X2_pagesLeft : GoodIn wsX2_readForDay wsX2_pagesLeft := goodIn_r _ [24, 25, 1, 37, 38, 39, 40, 41, 42, 43, 44, 45, 46, 47, 48, 49, 50, 51, 52] (by decide +kernel) (by decide +kernel)
set_option maxRecDepth 20000 in
theorem gX2_readForDay_X2_pagesLeft : GoodIn wsX2_readForDay (wsV RX2 72 RX2 yX2_pagesLeft wsX2_pagesLeft) := goodIn_app (goodIn_of _ (by decide +kernel)) ggX2_readForDay_X2_pagesLeft
set_option maxRecDepth 20000 in
theorem ggX2_readForDay_X2_markFor : GoodIn wsX2_readForDay wsX2_markFor := goodIn_r _ [29, 30, 31, 32, 33, 34, 35, 4, 36, 2, 3, 5, 18, 19, 20, 53, 54, 55, 56, 57, 58, 59, 60, 61, 62, 63, 37, 38, 39, 40, 41, 42, 43, 44, 45, 46, 47, 48, 49, 50, 51, 52] (by decide +kernel) (by decide +kernel)
set_option maxRecDepth 20000 in
theorem gX2_readForDay_X2_markFor : GoodIn wsX2_readForDay (wsV RX2 79 RX2 yX2_markFor wsX2_markFor) := goodIn_app (goodIn_of _ (by decide +kernel)) ggX2_readForDay_X2_markFor
theorem dX2_readForDay_0 : decode cX2_readForDay 0 = .ok (.aload_n 0, 1) := by decide +kernel
theorem dX2_readForDay_1 : decode cX2_readForDay 1 = .ok (.dup, 1) := by decide +kernel
theorem dX2_readForDay_2 : decode cX2_readForDay 2 = .ok (.getfield 50, 3) := by decide +kernel
theorem dX2_readForDay_5 : decode cX2_readForDay 5 = .ok (.aload_n 0, 1) := by decide +kernel
theorem dX2_readForDay_6 : decode cX2_readForDay 6 = .ok (.aload_n 0, 1) := by decide +kernel
theorem dX2_readForDay_7 : decode cX2_readForDay 7 = .ok (.getfield 50, 3) := by decide +kernel
theorem dX2_readForDay_10 : decode cX2_readForDay 10 = .ok (.invokevirtual 68, 3) := by decide +kernel
theorem dX2_readForDay_13 : decode cX2_readForDay 13 = .ok (.aload_n 0, 1) := by decide +kernel
theorem dX2_readForDay_14 : decode cX2_readForDay 14 = .ok (.invokevirtual 72, 3) := by decide +kernel
theorem dX2_readForDay_17 : decode cX2_readForDay 17 = .ok (.invokestatic 76, 3) := by decide +kernel
theorem dX2_readForDay_20 : decode cX2_readForDay 20 = .ok (.iadd, 1) := by decide +kernel
theorem dX2_readForDay_21 : decode cX2_readForDay 21 = .ok (.putfield 50, 3) := by decide +kernel
theorem dX2_readForDay_24 : decode cX2_readForDay 24 = .ok (.aload_n 0, 1) := by decide +kernel
theorem dX2_readForDay_25 : decode cX2_readForDay 25 = .ok (.getfield 47, 3) := by decide +kernel
theorem dX2_readForDay_28 : decode cX2_readForDay 28 = .ok (.istore_n 2, 1) := by decide +kernel
theorem dX2_readForDay_29 : decode cX2_readForDay 29 = .ok (.aload_n 0, 1) := by decide +kernel
theorem dX2_readForDay_30 : decode cX2_readForDay 30 = .ok (.getfield 47, 3) := by decide +kernel
theorem dX2_readForDay_33 : decode cX2_readForDay 33 = .ok (.aload_n 0, 1) := by decide +kernel
theorem dX2_readForDay_34 : decode cX2_readForDay 34 = .ok (.getfield 41, 3) := by decide +kernel
theorem dX2_readForDay_37 : decode cX2_readForDay 37 = .ok (.if_icmp .ge 70, 3) := by decide +kernel
theorem dX2_readForDay_40 : decode cX2_readForDay 40 = .ok (.aload_n 0, 1) := by decide +kernel
theorem dX2_readForDay_41 : decode cX2_readForDay 41 = .ok (.getfield 15, 3) := by decide +kernel
theorem dX2_readForDay_44 : decode cX2_readForDay 44 = .ok (.aload_n 0, 1) := by decide +kernel
theorem dX2_readForDay_45 : decode cX2_readForDay 45 = .ok (.getfield 47, 3) := by decide +kernel
theorem dX2_readForDay_48 : decode cX2_readForDay 48 = .ok (.iaload, 1) := by decide +kernel
theorem dX2_readForDay_49 : decode cX2_readForDay 49 = .ok (.aload_n 0, 1) := by decide +kernel
theorem dX2_readForDay_50 : decode cX2_readForDay 50 = .ok (.getfield 50, 3) := by decide +kernel
theorem dX2_readForDay_53 : decode cX2_readForDay 53 = .ok (.if_icmp .gt 54, 3) := by decide +kernel
theorem dX2_readForDay_56 : decode cX2_readForDay 56 = .ok (.aload_n 0, 1) := by decide +kernel
theorem dX2_readForDay_57 : decode cX2_readForDay 57 = .ok (.getfield 9, 3) := by decide +kernel
theorem dX2_readForDay_60 : decode cX2_readForDay 60 = .ok (.aload_n 0, 1) := by decide +kernel
theorem dX2_readForDay_61 : decode cX2_readForDay 61 = .ok (.getfield 47, 3) := by decide +kernel
theorem dX2_readForDay_64 : decode cX2_readForDay 64 = .ok (.iaload, 1) := by decide +kernel
theorem dX2_readForDay_65 : decode cX2_readForDay 65 = .ok (.istore_n 3, 1) := by decide +kernel
theorem dX2_readForDay_66 : decode cX2_readForDay 66 = .ok (.aload_n 0, 1) := by decide +kernel
theorem dX2_readForDay_67 : decode cX2_readForDay 67 = .ok (.getfield 18, 3) := by decide +kernel
theorem dX2_readForDay_70 : decode cX2_readForDay 70 = .ok (.iload_n 3, 1) := by decide +kernel
theorem dX2_readForDay_71 : decode cX2_readForDay 71 = .ok (.aload_n 0, 1) := by decide +kernel
theorem dX2_readForDay_72 : decode cX2_readForDay 72 = .ok (.aload_n 1, 1) := by decide +kernel
theorem dX2_readForDay_73 : decode cX2_readForDay 73 = .ok (.iload_n 3, 1) := by decide +kernel
theorem dX2_readForDay_74 : decode cX2_readForDay 74 = .ok (.aaload, 1) := by decide +kernel
theorem dX2_readForDay_75 : decode cX2_readForDay 75 = .ok (.invokevirtual 79, 3) := by decide +kernel
theorem dX2_readForDay_78 : decode cX2_readForDay 78 = .ok (.iastore, 1) := by decide +kernel
theorem dX2_readForDay_79 : decode cX2_readForDay 79 = .ok (.aload_n 0, 1) := by decide +kernel
theorem dX2_readForDay_80 : decode cX2_readForDay 80 = .ok (.dup, 1) := by decide +kernel
theorem dX2_readForDay_81 : decode cX2_readForDay 81 = .ok (.getfield 53, 3) := by decide +kernel
theorem dX2_readForDay_84 : decode cX2_readForDay 84 = .ok (.aload_n 0, 1) := by decide +kernel
theorem dX2_readForDay_85 : decode cX2_readForDay 85 = .ok (.getfield 18, 3) := by decide +kernel
theorem dX2_readForDay_88 : decode cX2_readForDay 88 = .ok (.iload_n 3, 1) := by decide +kernel
theorem dX2_readForDay_89 : decode cX2_readForDay 89 = .ok (.iaload, 1) := by decide +kernel
theorem dX2_readForDay_90 : decode cX2_readForDay 90 = .ok (.iadd, 1) := by decide +kernel
theorem dX2_readForDay_91 : decode cX2_readForDay 91 = .ok (.putfield 53, 3) := by decide +kernel
theorem dX2_readForDay_94 : decode cX2_readForDay 94 = .ok (.aload_n 0, 1) := by decide +kernel
theorem dX2_readForDay_95 : decode cX2_readForDay 95 = .ok (.dup, 1) := by decide +kernel
theorem dX2_readForDay_96 : decode cX2_readForDay 96 = .ok (.getfield 47, 3) := by decide +kernel
theorem dX2_readForDay_99 : decode cX2_readForDay 99 = .ok (.iconst 1, 1) := by decide +kernel
theorem dX2_readForDay_100 : decode cX2_readForDay 100 = .ok (.iadd, 1) := by decide +kernel
theorem dX2_readForDay_101 : decode cX2_readForDay 101 = .ok (.putfield 47, 3) := by decide +kernel
theorem dX2_readForDay_104 : decode cX2_readForDay 104 = .ok (.goto (-75), 3) := by decide +kernel
theorem dX2_readForDay_107 : decode cX2_readForDay 107 = .ok (.aload_n 0, 1) := by decide +kernel
theorem dX2_readForDay_108 : decode cX2_readForDay 108 = .ok (.getfield 47, 3) := by decide +kernel
theorem dX2_readForDay_111 : decode cX2_readForDay 111 = .ok (.iload_n 2, 1) := by decide +kernel
theorem dX2_readForDay_112 : decode cX2_readForDay 112 = .ok (.isub, 1) := by decide +kernel
theorem dX2_readForDay_113 : decode cX2_readForDay 113 = .ok (.ireturn, 1) := by decide +kernel
set_option maxRecDepth 20000 in
theorem ggX2_daysLeft_X2_paceAfter : GoodIn wsX2_daysLeft wsX2_paceAfter := goodIn_r _ [7, 8, 9, 10, 11, 12, 13, 14, 15, 16, 17, 18, 19, 20, 21, 22, 23, 24, 25, 26, 27, 28] (by decide +kernel) (by decide +kernel)
set_option maxRecDepth 20000 in
theorem gX2_daysLeft_X2_paceAfter : GoodIn wsX2_daysLeft (wsV RX2 68 RX2 yX2_paceAfter wsX2_paceAfter) := goodIn_app (goodIn_of _ (by decide +kernel)) ggX2_daysLeft_X2_paceAfter
theorem dX2_daysLeft_0 : decode cX2_daysLeft 0 = .ok (.iconst 0, 1) := by decide +kernel
theorem dX2_daysLeft_1 : decode cX2_daysLeft 1 = .ok (.istore_n 1, 1) := by decide +kernel
theorem dX2_daysLeft_2 : decode cX2_daysLeft 2 = .ok (.aload_n 0, 1) := by decide +kernel
theorem dX2_daysLeft_3 : decode cX2_daysLeft 3 = .ok (.getfield 50, 3) := by decide +kernel
theorem dX2_daysLeft_6 : decode cX2_daysLeft 6 = .ok (.istore_n 2, 1) := by decide +kernel
theorem dX2_daysLeft_7 : decode cX2_daysLeft 7 = .ok (.iload_n 2, 1) := by decide +kernel
theorem dX2_daysLeft_8 : decode cX2_daysLeft 8 = .ok (.aload_n 0, 1) := by decide +kernel
theorem dX2_daysLeft_9 : decode cX2_daysLeft 9 = .ok (.getfield 44, 3) := by decide +kernel
theorem dX2_daysLeft_12 : decode cX2_daysLeft 12 = .ok (.if_icmp .ge 24, 3) := by decide +kernel
theorem dX2_daysLeft_15 : decode cX2_daysLeft 15 = .ok (.iload_n 1, 1) := by decide +kernel
theorem dX2_daysLeft_16 : decode cX2_daysLeft 16 = .ok (.sipush 10000, 3) := by decide +kernel
theorem dX2_daysLeft_19 : decode cX2_daysLeft 19 = .ok (.if_icmp .ge 17, 3) := by decide +kernel
theorem dX2_daysLeft_22 : decode cX2_daysLeft 22 = .ok (.iload_n 2, 1) := by decide +kernel
theorem dX2_daysLeft_23 : decode cX2_daysLeft 23 = .ok (.aload_n 0, 1) := by decide +kernel
theorem dX2_daysLeft_24 : decode cX2_daysLeft 24 = .ok (.iload_n 2, 1) := by decide +kernel
theorem dX2_daysLeft_25 : decode cX2_daysLeft 25 = .ok (.invokevirtual 68, 3) := by decide +kernel
theorem dX2_daysLeft_28 : decode cX2_daysLeft 28 = .ok (.iadd, 1) := by decide +kernel
theorem dX2_daysLeft_29 : decode cX2_daysLeft 29 = .ok (.istore_n 2, 1) := by decide +kernel
theorem dX2_daysLeft_30 : decode cX2_daysLeft 30 = .ok (.iinc 1 1, 3) := by decide +kernel
theorem dX2_daysLeft_33 : decode cX2_daysLeft 33 = .ok (.goto (-26), 3) := by decide +kernel
theorem dX2_daysLeft_36 : decode cX2_daysLeft 36 = .ok (.iload_n 1, 1) := by decide +kernel
theorem dX2_daysLeft_37 : decode cX2_daysLeft 37 = .ok (.ireturn, 1) := by decide +kernel
theorem dX2_markFor_0 : decode cX2_markFor 0 = .ok (.aload_n 1, 1) := by decide +kernel
theorem dX2_markFor_1 : decode cX2_markFor 1 = .ok (.getfield 83, 3) := by decide +kernel
theorem dX2_markFor_4 : decode cX2_markFor 4 = .ok (.aload_n 0, 1) := by decide +kernel
theorem dX2_markFor_5 : decode cX2_markFor 5 = .ok (.getfield 34, 3) := by decide +kernel
theorem dX2_markFor_8 : decode cX2_markFor 8 = .ok (.iadd, 1) := by decide +kernel
theorem dX2_markFor_9 : decode cX2_markFor 9 = .ok (.bipush 10, 2) := by decide +kernel
theorem dX2_markFor_11 : decode cX2_markFor 11 = .ok (.iadd, 1) := by decide +kernel
theorem dX2_markFor_12 : decode cX2_markFor 12 = .ok (.iconst 2, 1) := by decide +kernel
theorem dX2_markFor_13 : decode cX2_markFor 13 = .ok (.aload_n 0, 1) := by decide +kernel
theorem dX2_markFor_14 : decode cX2_markFor 14 = .ok (.getfield 31, 3) := by decide +kernel
theorem dX2_markFor_17 : decode cX2_markFor 17 = .ok (.aload_n 1, 1) := by decide +kernel
theorem dX2_markFor_18 : decode cX2_markFor 18 = .ok (.getfield 88, 3) := by decide +kernel
theorem dX2_markFor_21 : decode cX2_markFor 21 = .ok (.isub, 1) := by decide +kernel
theorem dX2_markFor_22 : decode cX2_markFor 22 = .ok (.invokestatic 91, 3) := by decide +kernel
theorem dX2_markFor_25 : decode cX2_markFor 25 = .ok (.imul, 1) := by decide +kernel
theorem dX2_markFor_26 : decode cX2_markFor 26 = .ok (.isub, 1) := by decide +kernel
theorem dX2_markFor_27 : decode cX2_markFor 27 = .ok (.istore_n 2, 1) := by decide +kernel
theorem dX2_markFor_28 : decode cX2_markFor 28 = .ok (.iconst 0, 1) := by decide +kernel
theorem dX2_markFor_29 : decode cX2_markFor 29 = .ok (.bipush 99, 2) := by decide +kernel
theorem dX2_markFor_31 : decode cX2_markFor 31 = .ok (.iload_n 2, 1) := by decide +kernel
theorem dX2_markFor_32 : decode cX2_markFor 32 = .ok (.invokestatic 76, 3) := by decide +kernel
theorem dX2_markFor_35 : decode cX2_markFor 35 = .ok (.invokestatic 62, 3) := by decide +kernel
theorem dX2_markFor_38 : decode cX2_markFor 38 = .ok (.ireturn, 1) := by decide +kernel
theorem dX2_meanOfTenfoldMarks_0 : decode cX2_meanOfTenfoldMarks 0 = .ok (.aload_n 0, 1) := by decide +kernel
theorem dX2_meanOfTenfoldMarks_1 : decode cX2_meanOfTenfoldMarks 1 = .ok (.getfield 47, 3) := by decide +kernel
theorem dX2_meanOfTenfoldMarks_4 : decode cX2_meanOfTenfoldMarks 4 = .ok (.ifCond .ne 7, 3) := by decide +kernel
theorem dX2_meanOfTenfoldMarks_7 : decode cX2_meanOfTenfoldMarks 7 = .ok (.iconst 0, 1) := by decide +kernel
theorem dX2_meanOfTenfoldMarks_8 : decode cX2_meanOfTenfoldMarks 8 = .ok (.goto 15, 3) := by decide +kernel
theorem dX2_meanOfTenfoldMarks_11 : decode cX2_meanOfTenfoldMarks 11 = .ok (.bipush 10, 2) := by decide +kernel
theorem dX2_meanOfTenfoldMarks_13 : decode cX2_meanOfTenfoldMarks 13 = .ok (.aload_n 0, 1) := by decide +kernel
theorem dX2_meanOfTenfoldMarks_14 : decode cX2_meanOfTenfoldMarks 14 = .ok (.getfield 53, 3) := by decide +kernel
theorem dX2_meanOfTenfoldMarks_17 : decode cX2_meanOfTenfoldMarks 17 = .ok (.imul, 1) := by decide +kernel
theorem dX2_meanOfTenfoldMarks_18 : decode cX2_meanOfTenfoldMarks 18 = .ok (.aload_n 0, 1) := by decide +kernel
theorem dX2_meanOfTenfoldMarks_19 : decode cX2_meanOfTenfoldMarks 19 = .ok (.getfield 47, 3) := by decide +kernel
theorem dX2_meanOfTenfoldMarks_22 : decode cX2_meanOfTenfoldMarks 22 = .ok (.idiv, 1) := by decide +kernel
theorem dX2_meanOfTenfoldMarks_23 : decode cX2_meanOfTenfoldMarks 23 = .ok (.ireturn, 1) := by decide +kernel
theorem dX2_pointsLeft_0 : decode cX2_pointsLeft 0 = .ok (.bipush 12, 2) := by decide +kernel
theorem dX2_pointsLeft_2 : decode cX2_pointsLeft 2 = .ok (.istore_n 1, 1) := by decide +kernel
theorem dX2_pointsLeft_3 : decode cX2_pointsLeft 3 = .ok (.iconst 0, 1) := by decide +kernel
theorem dX2_pointsLeft_4 : decode cX2_pointsLeft 4 = .ok (.istore_n 2, 1) := by decide +kernel
theorem dX2_pointsLeft_5 : decode cX2_pointsLeft 5 = .ok (.iload_n 2, 1) := by decide +kernel
theorem dX2_pointsLeft_6 : decode cX2_pointsLeft 6 = .ok (.bipush 16, 2) := by decide +kernel
theorem dX2_pointsLeft_8 : decode cX2_pointsLeft 8 = .ok (.if_icmp .ge 18, 3) := by decide +kernel
theorem dX2_pointsLeft_11 : decode cX2_pointsLeft 11 = .ok (.iload_n 1, 1) := by decide +kernel
theorem dX2_pointsLeft_12 : decode cX2_pointsLeft 12 = .ok (.aload_n 0, 1) := by decide +kernel
theorem dX2_pointsLeft_13 : decode cX2_pointsLeft 13 = .ok (.getfield 21, 3) := by decide +kernel
theorem dX2_pointsLeft_16 : decode cX2_pointsLeft 16 = .ok (.iload_n 2, 1) := by decide +kernel
theorem dX2_pointsLeft_17 : decode cX2_pointsLeft 17 = .ok (.iaload, 1) := by decide +kernel
theorem dX2_pointsLeft_18 : decode cX2_pointsLeft 18 = .ok (.isub, 1) := by decide +kernel
theorem dX2_pointsLeft_19 : decode cX2_pointsLeft 19 = .ok (.istore_n 1, 1) := by decide +kernel
theorem dX2_pointsLeft_20 : decode cX2_pointsLeft 20 = .ok (.iinc 2 1, 3) := by decide +kernel
theorem dX2_pointsLeft_23 : decode cX2_pointsLeft 23 = .ok (.goto (-18), 3) := by decide +kernel
theorem dX2_pointsLeft_26 : decode cX2_pointsLeft 26 = .ok (.iload_n 1, 1) := by decide +kernel
theorem dX2_pointsLeft_27 : decode cX2_pointsLeft 27 = .ok (.ireturn, 1) := by decide +kernel
theorem dX2_hasOrder_0 : decode cX2_hasOrder 0 = .ok (.aload_n 0, 1) := by decide +kernel
theorem dX2_hasOrder_1 : decode cX2_hasOrder 1 = .ok (.getfield 56, 3) := by decide +kernel
theorem dX2_hasOrder_4 : decode cX2_hasOrder 4 = .ok (.ifCond .le 7, 3) := by decide +kernel
theorem dX2_hasOrder_7 : decode cX2_hasOrder 7 = .ok (.iconst 1, 1) := by decide +kernel
theorem dX2_hasOrder_8 : decode cX2_hasOrder 8 = .ok (.goto 4, 3) := by decide +kernel
theorem dX2_hasOrder_11 : decode cX2_hasOrder 11 = .ok (.iconst 0, 1) := by decide +kernel
theorem dX2_hasOrder_12 : decode cX2_hasOrder 12 = .ok (.ireturn, 1) := by decide +kernel
set_option maxRecDepth 20000 in
theorem ggX2_firstIn_X4_has : GoodIn wsX2_firstIn wsX4_has := goodIn_r _ [5] (by decide +kernel) (by decide +kernel)
set_option maxRecDepth 20000 in
theorem gX2_firstIn_X4_has_n94 : GoodIn wsX2_firstIn (wsX4_has) := ggX2_firstIn_X4_has
theorem dX2_firstIn_0 : decode cX2_firstIn 0 = .ok (.iconst 0, 1) := by decide +kernel
theorem dX2_firstIn_1 : decode cX2_firstIn 1 = .ok (.istore_n 2, 1) := by decide +kernel
theorem dX2_firstIn_2 : decode cX2_firstIn 2 = .ok (.iload_n 2, 1) := by decide +kernel
theorem dX2_firstIn_3 : decode cX2_firstIn 3 = .ok (.aload_n 0, 1) := by decide +kernel
theorem dX2_firstIn_4 : decode cX2_firstIn 4 = .ok (.getfield 56, 3) := by decide +kernel
theorem dX2_firstIn_7 : decode cX2_firstIn 7 = .ok (.if_icmp .ge 29, 3) := by decide +kernel
theorem dX2_firstIn_10 : decode cX2_firstIn 10 = .ok (.iload_n 1, 1) := by decide +kernel
theorem dX2_firstIn_11 : decode cX2_firstIn 11 = .ok (.aload_n 0, 1) := by decide +kernel
theorem dX2_firstIn_12 : decode cX2_firstIn 12 = .ok (.getfield 24, 3) := by decide +kernel
theorem dX2_firstIn_15 : decode cX2_firstIn 15 = .ok (.iload_n 2, 1) := by decide +kernel
theorem dX2_firstIn_16 : decode cX2_firstIn 16 = .ok (.iaload, 1) := by decide +kernel
theorem dX2_firstIn_17 : decode cX2_firstIn 17 = .ok (.invokestatic 94, 3) := by decide +kernel
theorem dX2_firstIn_20 : decode cX2_firstIn 20 = .ok (.ifCond .eq 10, 3) := by decide +kernel
theorem dX2_firstIn_23 : decode cX2_firstIn 23 = .ok (.aload_n 0, 1) := by decide +kernel
theorem dX2_firstIn_24 : decode cX2_firstIn 24 = .ok (.getfield 24, 3) := by decide +kernel
theorem dX2_firstIn_27 : decode cX2_firstIn 27 = .ok (.iload_n 2, 1) := by decide +kernel
theorem dX2_firstIn_28 : decode cX2_firstIn 28 = .ok (.iaload, 1) := by decide +kernel
theorem dX2_firstIn_29 : decode cX2_firstIn 29 = .ok (.ireturn, 1) := by decide +kernel
theorem dX2_firstIn_30 : decode cX2_firstIn 30 = .ok (.iinc 2 1, 3) := by decide +kernel
theorem dX2_firstIn_33 : decode cX2_firstIn 33 = .ok (.goto (-31), 3) := by decide +kernel
theorem dX2_firstIn_36 : decode cX2_firstIn 36 = .ok (.iconst (-1), 1) := by decide +kernel
theorem dX2_firstIn_37 : decode cX2_firstIn 37 = .ok (.ireturn, 1) := by decide +kernel
theorem dX3_init_0 : decode cX3_init 0 = .ok (.aload_n 0, 1) := by decide +kernel
theorem dX3_init_1 : decode cX3_init 1 = .ok (.invokespecial 1, 3) := by decide +kernel
theorem dX3_init_4 : decode cX3_init 4 = .ok (.aload_n 0, 1) := by decide +kernel
theorem dX3_init_5 : decode cX3_init 5 = .ok (.bipush 7, 2) := by decide +kernel
theorem dX3_init_7 : decode cX3_init 7 = .ok (.putfield 7, 3) := by decide +kernel
theorem dX3_init_10 : decode cX3_init 10 = .ok (.aload_n 0, 1) := by decide +kernel
theorem dX3_init_11 : decode cX3_init 11 = .ok (.bipush 100, 2) := by decide +kernel
theorem dX3_init_13 : decode cX3_init 13 = .ok (.putfield 13, 3) := by decide +kernel
theorem dX3_init_16 : decode cX3_init 16 = .ok (.aload_n 0, 1) := by decide +kernel
theorem dX3_init_17 : decode cX3_init 17 = .ok (.sipush 800, 3) := by decide +kernel
theorem dX3_init_20 : decode cX3_init 20 = .ok (.putfield 16, 3) := by decide +kernel
theorem dX3_init_23 : decode cX3_init 23 = .ok (.aload_n 0, 1) := by decide +kernel
theorem dX3_init_24 : decode cX3_init 24 = .ok (.bipush 10, 2) := by decide +kernel
theorem dX3_init_26 : decode cX3_init 26 = .ok (.putfield 19, 3) := by decide +kernel
theorem dX3_init_29 : decode cX3_init 29 = .ok (.return_, 1) := by decide +kernel
theorem dX3_set_0 : decode cX3_set 0 = .ok (.aload_n 0, 1) := by decide +kernel
theorem dX3_set_1 : decode cX3_set 1 = .ok (.iload_n 1, 1) := by decide +kernel
theorem dX3_set_2 : decode cX3_set 2 = .ok (.putfield 7, 3) := by decide +kernel
theorem dX3_set_5 : decode cX3_set 5 = .ok (.aload_n 0, 1) := by decide +kernel
theorem dX3_set_6 : decode cX3_set 6 = .ok (.iload_n 2, 1) := by decide +kernel
theorem dX3_set_7 : decode cX3_set 7 = .ok (.putfield 13, 3) := by decide +kernel
theorem dX3_set_10 : decode cX3_set 10 = .ok (.aload_n 0, 1) := by decide +kernel
theorem dX3_set_11 : decode cX3_set 11 = .ok (.iload_n 3, 1) := by decide +kernel
theorem dX3_set_12 : decode cX3_set 12 = .ok (.putfield 16, 3) := by decide +kernel
theorem dX3_set_15 : decode cX3_set 15 = .ok (.aload_n 0, 1) := by decide +kernel
theorem dX3_set_16 : decode cX3_set 16 = .ok (.iload 4, 2) := by decide +kernel
theorem dX3_set_18 : decode cX3_set 18 = .ok (.putfield 19, 3) := by decide +kernel
theorem dX3_set_21 : decode cX3_set 21 = .ok (.return_, 1) := by decide +kernel
set_option maxRecDepth 20000 in
theorem ggX3_admit_X4_has : GoodIn wsX3_admit wsX4_has := goodIn_r _ [6] (by decide +kernel) (by decide +kernel)
set_option maxRecDepth 20000 in
theorem gX3_admit_X4_has_n22 : GoodIn wsX3_admit (wsX4_has) := ggX3_admit_X4_has
set_option maxRecDepth 20000 in
theorem ggX3_admit_X4_isWithin : GoodIn wsX3_admit wsX4_isWithin := goodIn_r _ [8] (by decide +kernel) (by decide +kernel)
set_option maxRecDepth 20000 in
theorem gX3_admit_X4_isWithin_n28 : GoodIn wsX3_admit (wsX4_isWithin) := ggX3_admit_X4_isWithin
theorem dX3_admit_0 : decode cX3_admit 0 = .ok (.aload_n 0, 1) := by decide +kernel
theorem dX3_admit_1 : decode cX3_admit 1 = .ok (.getfield 7, 3) := by decide +kernel
theorem dX3_admit_4 : decode cX3_admit 4 = .ok (.iload_n 1, 1) := by decide +kernel
theorem dX3_admit_5 : decode cX3_admit 5 = .ok (.invokestatic 22, 3) := by decide +kernel
theorem dX3_admit_8 : decode cX3_admit 8 = .ok (.ifCond .eq 22, 3) := by decide +kernel
theorem dX3_admit_11 : decode cX3_admit 11 = .ok (.iload_n 2, 1) := by decide +kernel
theorem dX3_admit_12 : decode cX3_admit 12 = .ok (.aload_n 0, 1) := by decide +kernel
theorem dX3_admit_13 : decode cX3_admit 13 = .ok (.getfield 13, 3) := by decide +kernel
theorem dX3_admit_16 : decode cX3_admit 16 = .ok (.aload_n 0, 1) := by decide +kernel
theorem dX3_admit_17 : decode cX3_admit 17 = .ok (.getfield 16, 3) := by decide +kernel
theorem dX3_admit_20 : decode cX3_admit 20 = .ok (.invokestatic 28, 3) := by decide +kernel
theorem dX3_admit_23 : decode cX3_admit 23 = .ok (.ifCond .eq 7, 3) := by decide +kernel
theorem dX3_admit_26 : decode cX3_admit 26 = .ok (.iconst 1, 1) := by decide +kernel
theorem dX3_admit_27 : decode cX3_admit 27 = .ok (.goto 4, 3) := by decide +kernel
theorem dX3_admit_30 : decode cX3_admit 30 = .ok (.iconst 0, 1) := by decide +kernel
theorem dX3_admit_31 : decode cX3_admit 31 = .ok (.ireturn, 1) := by decide +kernel
set_option maxRecDepth 20000 in
theorem ggX4_init_X3_init : GoodIn wsX4_init wsX3_init := goodIn_r _ [27, 28, 2, 3, 29, 30, 31, 32, 69, 70, 71, 72] (by decide +kernel) (by decide +kernel)
set_option maxRecDepth 20000 in
theorem gX4_init_X3_init_n29 : GoodIn wsX4_init (wsX3_init) := ggX4_init_X3_init
set_option maxRecDepth 20000 in
theorem ggX4_init_X1_init : GoodIn wsX4_init wsX1_init := goodIn_r _ [34, 35, 2, 3, 36, 73, 74] (by decide +kernel) (by decide +kernel)
set_option maxRecDepth 20000 in
theorem gX4_init_X1_init_n51 : GoodIn wsX4_init (wsX1_init) := ggX4_init_X1_init
set_option maxRecDepth 20000 in
theorem ggX4_init_X0_init : GoodIn wsX4_init wsX0_init := goodIn_r _ [38, 39, 2, 3, 40, 75, 76, 77, 78, 79, 80, 81, 82, 83, 84, 85] (by decide +kernel) (by decide +kernel)
set_option maxRecDepth 20000 in
theorem gX4_init_X0_init_n52 : GoodIn wsX4_init (wsX0_init) := ggX4_init_X0_init
set_option maxRecDepth 20000 in
theorem ggX4_init_X2_init : GoodIn wsX4_init wsX2_init := goodIn_r _ [43, 44, 2, 3, 18, 45, 46, 47, 48, 49, 86, 87, 88, 89, 90, 91, 92, 93, 94, 95, 96, 97, 98, 99, 100, 101] (by decide +kernel) (by decide +kernel)
set_option maxRecDepth 20000 in
theorem gX4_init_X2_init : GoodIn wsX4_init (wsX2_init) := ggX4_init_X2_init
theorem dX4_init_0 : decode cX4_init 0 = .ok (.aload_n 0, 1) := by decide +kernel
theorem dX4_init_1 : decode cX4_init 1 = .ok (.invokespecial 1, 3) := by decide +kernel
theorem dX4_init_4 : decode cX4_init 4 = .ok (.aload_n 0, 1) := by decide +kernel
theorem dX4_init_5 : decode cX4_init 5 = .ok (.iconst 5, 1) := by decide +kernel
theorem dX4_init_6 : decode cX4_init 6 = .ok (.anewarray 9, 3) := by decide +kernel
theorem dX4_init_9 : decode cX4_init 9 = .ok (.putfield 11, 3) := by decide +kernel
theorem dX4_init_12 : decode cX4_init 12 = .ok (.aload_n 0, 1) := by decide +kernel
theorem dX4_init_13 : decode cX4_init 13 = .ok (.bipush 16, 2) := by decide +kernel
theorem dX4_init_15 : decode cX4_init 15 = .ok (.anewarray 15, 3) := by decide +kernel
theorem dX4_init_18 : decode cX4_init 18 = .ok (.putfield 17, 3) := by decide +kernel
theorem dX4_init_21 : decode cX4_init 21 = .ok (.aload_n 0, 1) := by decide +kernel
theorem dX4_init_22 : decode cX4_init 22 = .ok (.iconst 5, 1) := by decide +kernel
theorem dX4_init_23 : decode cX4_init 23 = .ok (.anewarray 21, 3) := by decide +kernel
theorem dX4_init_26 : decode cX4_init 26 = .ok (.putfield 23, 3) := by decide +kernel
theorem dX4_init_29 : decode cX4_init 29 = .ok (.aload_n 0, 1) := by decide +kernel
theorem dX4_init_30 : decode cX4_init 30 = .ok (.new 27, 3) := by decide +kernel
theorem dX4_init_33 : decode cX4_init 33 = .ok (.dup, 1) := by decide +kernel
theorem dX4_init_34 : decode cX4_init 34 = .ok (.invokespecial 29, 3) := by decide +kernel
theorem dX4_init_37 : decode cX4_init 37 = .ok (.putfield 30, 3) := by decide +kernel
theorem dX4_init_40 : decode cX4_init 40 = .ok (.aload_n 0, 1) := by decide +kernel
theorem dX4_init_41 : decode cX4_init 41 = .ok (.new 27, 3) := by decide +kernel
theorem dX4_init_44 : decode cX4_init 44 = .ok (.dup, 1) := by decide +kernel
theorem dX4_init_45 : decode cX4_init 45 = .ok (.invokespecial 29, 3) := by decide +kernel
theorem dX4_init_48 : decode cX4_init 48 = .ok (.putfield 34, 3) := by decide +kernel
theorem dX4_init_51 : decode cX4_init 51 = .ok (.aload_n 0, 1) := by decide +kernel
theorem dX4_init_52 : decode cX4_init 52 = .ok (.iconst 0, 1) := by decide +kernel
theorem dX4_init_53 : decode cX4_init 53 = .ok (.putfield 37, 3) := by decide +kernel
theorem dX4_init_56 : decode cX4_init 56 = .ok (.aload_n 0, 1) := by decide +kernel
theorem dX4_init_57 : decode cX4_init 57 = .ok (.iconst (-1), 1) := by decide +kernel
theorem dX4_init_58 : decode cX4_init 58 = .ok (.putfield 41, 3) := by decide +kernel
theorem dX4_init_61 : decode cX4_init 61 = .ok (.aload_n 0, 1) := by decide +kernel
theorem dX4_init_62 : decode cX4_init 62 = .ok (.iconst (-1), 1) := by decide +kernel
theorem dX4_init_63 : decode cX4_init 63 = .ok (.putfield 44, 3) := by decide +kernel
theorem dX4_init_66 : decode cX4_init 66 = .ok (.aload_n 0, 1) := by decide +kernel
theorem dX4_init_67 : decode cX4_init 67 = .ok (.bipush 16, 2) := by decide +kernel
theorem dX4_init_69 : decode cX4_init 69 = .ok (.newarray .int, 2) := by decide +kernel
theorem dX4_init_71 : decode cX4_init 71 = .ok (.putfield 47, 3) := by decide +kernel
theorem dX4_init_74 : decode cX4_init 74 = .ok (.iconst 0, 1) := by decide +kernel
theorem dX4_init_75 : decode cX4_init 75 = .ok (.istore_n 1, 1) := by decide +kernel
theorem dX4_init_76 : decode cX4_init 76 = .ok (.iload_n 1, 1) := by decide +kernel
theorem dX4_init_77 : decode cX4_init 77 = .ok (.iconst 5, 1) := by decide +kernel
theorem dX4_init_78 : decode cX4_init 78 = .ok (.if_icmp .ge 22, 3) := by decide +kernel
theorem dX4_init_81 : decode cX4_init 81 = .ok (.aload_n 0, 1) := by decide +kernel
theorem dX4_init_82 : decode cX4_init 82 = .ok (.getfield 11, 3) := by decide +kernel
theorem dX4_init_85 : decode cX4_init 85 = .ok (.iload_n 1, 1) := by decide +kernel
theorem dX4_init_86 : decode cX4_init 86 = .ok (.new 9, 3) := by decide +kernel
theorem dX4_init_89 : decode cX4_init 89 = .ok (.dup, 1) := by decide +kernel
theorem dX4_init_90 : decode cX4_init 90 = .ok (.invokespecial 51, 3) := by decide +kernel
theorem dX4_init_93 : decode cX4_init 93 = .ok (.aastore, 1) := by decide +kernel
theorem dX4_init_94 : decode cX4_init 94 = .ok (.iinc 1 1, 3) := by decide +kernel
theorem dX4_init_97 : decode cX4_init 97 = .ok (.goto (-21), 3) := by decide +kernel
theorem dX4_init_100 : decode cX4_init 100 = .ok (.iconst 0, 1) := by decide +kernel
theorem dX4_init_101 : decode cX4_init 101 = .ok (.istore_n 1, 1) := by decide +kernel
theorem dX4_init_102 : decode cX4_init 102 = .ok (.iload_n 1, 1) := by decide +kernel
theorem dX4_init_103 : decode cX4_init 103 = .ok (.bipush 16, 2) := by decide +kernel
theorem dX4_init_105 : decode cX4_init 105 = .ok (.if_icmp .ge 22, 3) := by decide +kernel
theorem dX4_init_108 : decode cX4_init 108 = .ok (.aload_n 0, 1) := by decide +kernel
theorem dX4_init_109 : decode cX4_init 109 = .ok (.getfield 17, 3) := by decide +kernel
theorem dX4_init_112 : decode cX4_init 112 = .ok (.iload_n 1, 1) := by decide +kernel
theorem dX4_init_113 : decode cX4_init 113 = .ok (.new 15, 3) := by decide +kernel
theorem dX4_init_116 : decode cX4_init 116 = .ok (.dup, 1) := by decide +kernel
theorem dX4_init_117 : decode cX4_init 117 = .ok (.invokespecial 52, 3) := by decide +kernel
theorem dX4_init_120 : decode cX4_init 120 = .ok (.aastore, 1) := by decide +kernel
theorem dX4_init_121 : decode cX4_init 121 = .ok (.iinc 1 1, 3) := by decide +kernel
theorem dX4_init_124 : decode cX4_init 124 = .ok (.goto (-22), 3) := by decide +kernel
theorem dX4_init_127 : decode cX4_init 127 = .ok (.iconst 0, 1) := by decide +kernel
theorem dX4_init_128 : decode cX4_init 128 = .ok (.istore_n 1, 1) := by decide +kernel
theorem dX4_init_129 : decode cX4_init 129 = .ok (.iload_n 1, 1) := by decide +kernel
theorem dX4_init_130 : decode cX4_init 130 = .ok (.iconst 5, 1) := by decide +kernel
theorem dX4_init_131 : decode cX4_init 131 = .ok (.if_icmp .ge 22, 3) := by decide +kernel
theorem dX4_init_134 : decode cX4_init 134 = .ok (.aload_n 0, 1) := by decide +kernel
theorem dX4_init_135 : decode cX4_init 135 = .ok (.getfield 23, 3) := by decide +kernel
theorem dX4_init_138 : decode cX4_init 138 = .ok (.iload_n 1, 1) := by decide +kernel
theorem dX4_init_139 : decode cX4_init 139 = .ok (.new 21, 3) := by decide +kernel
theorem dX4_init_142 : decode cX4_init 142 = .ok (.dup, 1) := by decide +kernel
theorem dX4_init_143 : decode cX4_init 143 = .ok (.invokespecial 53, 3) := by decide +kernel
theorem dX4_init_146 : decode cX4_init 146 = .ok (.aastore, 1) := by decide +kernel
theorem dX4_init_147 : decode cX4_init 147 = .ok (.iinc 1 1, 3) := by decide +kernel
theorem dX4_init_150 : decode cX4_init 150 = .ok (.goto (-21), 3) := by decide +kernel
theorem dX4_init_153 : decode cX4_init 153 = .ok (.return_, 1) := by decide +kernel
theorem dX4_house_0 : decode cX4_house 0 = .ok (.aload_n 0, 1) := by decide +kernel
theorem dX4_house_1 : decode cX4_house 1 = .ok (.getfield 54, 3) := by decide +kernel
theorem dX4_house_4 : decode cX4_house 4 = .ok (.iconst 5, 1) := by decide +kernel
theorem dX4_house_5 : decode cX4_house 5 = .ok (.if_icmp .lt 13, 3) := by decide +kernel
theorem dX4_house_8 : decode cX4_house 8 = .ok (.new 57, 3) := by decide +kernel
theorem dX4_house_11 : decode cX4_house 11 = .ok (.dup, 1) := by decide +kernel
theorem dX4_house_12 : decode cX4_house 12 = .ok (.ldc 59, 2) := by decide +kernel
theorem dX4_house_14 : decode cX4_house 14 = .ok (.invokespecial 61, 3) := by decide +kernel
theorem dX4_house_17 : decode cX4_house 17 = .ok (.athrow, 1) := by decide +kernel
theorem dX4_house_18 : decode cX4_house 18 = .ok (.aload_n 0, 1) := by decide +kernel
theorem dX4_house_19 : decode cX4_house 19 = .ok (.dup, 1) := by decide +kernel
theorem dX4_house_20 : decode cX4_house 20 = .ok (.getfield 54, 3) := by decide +kernel
theorem dX4_house_23 : decode cX4_house 23 = .ok (.iconst 1, 1) := by decide +kernel
theorem dX4_house_24 : decode cX4_house 24 = .ok (.iadd, 1) := by decide +kernel
theorem dX4_house_25 : decode cX4_house 25 = .ok (.putfield 54, 3) := by decide +kernel
theorem dX4_house_28 : decode cX4_house 28 = .ok (.aload_n 0, 1) := by decide +kernel
theorem dX4_house_29 : decode cX4_house 29 = .ok (.getfield 54, 3) := by decide +kernel
theorem dX4_house_32 : decode cX4_house 32 = .ok (.iconst 1, 1) := by decide +kernel
theorem dX4_house_33 : decode cX4_house 33 = .ok (.isub, 1) := by decide +kernel
theorem dX4_house_34 : decode cX4_house 34 = .ok (.ireturn, 1) := by decide +kernel
set_option maxRecDepth 20000 in
theorem ggX4_book_X4_isHouse : GoodIn wsX4_book wsX4_isHouse := goodIn_r _ [15, 16, 34, 35, 36, 37, 38, 39, 40, 41, 42, 43, 44, 45, 46, 47, 48, 49, 50, 51, 52] (by decide +kernel) (by decide +kernel)
set_option maxRecDepth 20000 in
theorem gX4_book_X4_isHouse : GoodIn wsX4_book (wsV RX4 64 RX4 yX4_isHouse wsX4_isHouse) := goodIn_app (goodIn_of _ (by decide +kernel)) ggX4_book_X4_isHouse
set_option maxRecDepth 20000 in
theorem ggX4_book_X4_isAuthor : GoodIn wsX4_book wsX4_isAuthor := goodIn_r _ [19, 20, 21, 14, 22] (by decide +kernel) (by decide +kernel)
set_option maxRecDepth 20000 in
theorem gX4_book_X4_isAuthor : GoodIn wsX4_book (va_wsS RX4 73 yX4_isAuthor wsX4_isAuthor) := goodIn_app (goodIn_of _ (by decide +kernel)) ggX4_book_X4_isAuthor
set_option maxRecDepth 20000 in
theorem ggX4_book_X4_isWithin : GoodIn wsX4_book wsX4_isWithin := goodIn_r _ [22] (by decide +kernel) (by decide +kernel)
set_option maxRecDepth 20000 in
theorem gX4_book_X4_isWithin : GoodIn wsX4_book (va_wsS RX4 76 yX4_isWithin wsX4_isWithin) := goodIn_app (goodIn_of _ (by decide +kernel)) ggX4_book_X4_isWithin
set_option maxRecDepth 20000 in
theorem ggX4_book_X0_describe : GoodIn wsX4_book wsX0_describe := goodIn_r _ [27, 28, 29, 30, 31, 32, 33, 53, 54, 55, 56, 57, 58, 59, 60, 61, 62, 63] (by decide +kernel) (by decide +kernel)
set_option maxRecDepth 20000 in
theorem gX4_book_X0_describe : GoodIn wsX4_book (wsV RX4 90 RX0 yX0_describe wsX0_describe) := goodIn_app (goodIn_of _ (by decide +kernel)) ggX4_book_X0_describe
theorem dX4_book_0 : decode cX4_book 0 = .ok (.aload_n 0, 1) := by decide +kernel
theorem dX4_book_1 : decode cX4_book 1 = .ok (.iload_n 1, 1) := by decide +kernel
theorem dX4_book_2 : decode cX4_book 2 = .ok (.invokevirtual 64, 3) := by decide +kernel
theorem dX4_book_5 : decode cX4_book 5 = .ok (.ifCond .ne 13, 3) := by decide +kernel
theorem dX4_book_8 : decode cX4_book 8 = .ok (.new 68, 3) := by decide +kernel
theorem dX4_book_11 : decode cX4_book 11 = .ok (.dup, 1) := by decide +kernel
theorem dX4_book_12 : decode cX4_book 12 = .ok (.ldc 70, 2) := by decide +kernel
theorem dX4_book_14 : decode cX4_book 14 = .ok (.invokespecial 72, 3) := by decide +kernel
theorem dX4_book_17 : decode cX4_book 17 = .ok (.athrow, 1) := by decide +kernel
theorem dX4_book_18 : decode cX4_book 18 = .ok (.iload_n 2, 1) := by decide +kernel
theorem dX4_book_19 : decode cX4_book 19 = .ok (.invokestatic 73, 3) := by decide +kernel
theorem dX4_book_22 : decode cX4_book 22 = .ok (.ifCond .eq 47, 3) := by decide +kernel
theorem dX4_book_25 : decode cX4_book 25 = .ok (.iload_n 3, 1) := by decide +kernel
theorem dX4_book_26 : decode cX4_book 26 = .ok (.iconst 0, 1) := by decide +kernel
theorem dX4_book_27 : decode cX4_book 27 = .ok (.iconst 2, 1) := by decide +kernel
theorem dX4_book_28 : decode cX4_book 28 = .ok (.invokestatic 76, 3) := by decide +kernel
theorem dX4_book_31 : decode cX4_book 31 = .ok (.ifCond .eq 38, 3) := by decide +kernel
theorem dX4_book_34 : decode cX4_book 34 = .ok (.iload 4, 2) := by decide +kernel
theorem dX4_book_36 : decode cX4_book 36 = .ok (.bipush 50, 2) := by decide +kernel
theorem dX4_book_38 : decode cX4_book 38 = .ok (.sipush 900, 3) := by decide +kernel
theorem dX4_book_41 : decode cX4_book 41 = .ok (.invokestatic 76, 3) := by decide +kernel
theorem dX4_book_44 : decode cX4_book 44 = .ok (.ifCond .eq 25, 3) := by decide +kernel
theorem dX4_book_47 : decode cX4_book 47 = .ok (.iload 5, 2) := by decide +kernel
theorem dX4_book_49 : decode cX4_book 49 = .ok (.iconst 0, 1) := by decide +kernel
theorem dX4_book_50 : decode cX4_book 50 = .ok (.bipush 60, 2) := by decide +kernel
theorem dX4_book_52 : decode cX4_book 52 = .ok (.invokestatic 76, 3) := by decide +kernel
theorem dX4_book_55 : decode cX4_book 55 = .ok (.ifCond .eq 14, 3) := by decide +kernel
theorem dX4_book_58 : decode cX4_book 58 = .ok (.iload 6, 2) := by decide +kernel
theorem dX4_book_60 : decode cX4_book 60 = .ok (.iconst 0, 1) := by decide +kernel
theorem dX4_book_61 : decode cX4_book 61 = .ok (.bipush 9, 2) := by decide +kernel
theorem dX4_book_63 : decode cX4_book 63 = .ok (.invokestatic 76, 3) := by decide +kernel
theorem dX4_book_66 : decode cX4_book 66 = .ok (.ifCond .ne 13, 3) := by decide +kernel
theorem dX4_book_69 : decode cX4_book 69 = .ok (.new 80, 3) := by decide +kernel
theorem dX4_book_72 : decode cX4_book 72 = .ok (.dup, 1) := by decide +kernel
theorem dX4_book_73 : decode cX4_book 73 = .ok (.ldc 82, 2) := by decide +kernel
theorem dX4_book_75 : decode cX4_book 75 = .ok (.invokespecial 84, 3) := by decide +kernel
theorem dX4_book_78 : decode cX4_book 78 = .ok (.athrow, 1) := by decide +kernel
theorem dX4_book_79 : decode cX4_book 79 = .ok (.aload_n 0, 1) := by decide +kernel
theorem dX4_book_80 : decode cX4_book 80 = .ok (.getfield 85, 3) := by decide +kernel
theorem dX4_book_83 : decode cX4_book 83 = .ok (.bipush 16, 2) := by decide +kernel
theorem dX4_book_85 : decode cX4_book 85 = .ok (.if_icmp .lt 13, 3) := by decide +kernel
theorem dX4_book_88 : decode cX4_book 88 = .ok (.new 57, 3) := by decide +kernel
theorem dX4_book_91 : decode cX4_book 91 = .ok (.dup, 1) := by decide +kernel
theorem dX4_book_92 : decode cX4_book 92 = .ok (.ldc 88, 2) := by decide +kernel
theorem dX4_book_94 : decode cX4_book 94 = .ok (.invokespecial 61, 3) := by decide +kernel
theorem dX4_book_97 : decode cX4_book 97 = .ok (.athrow, 1) := by decide +kernel
theorem dX4_book_98 : decode cX4_book 98 = .ok (.aload_n 0, 1) := by decide +kernel
theorem dX4_book_99 : decode cX4_book 99 = .ok (.getfield 17, 3) := by decide +kernel
theorem dX4_book_102 : decode cX4_book 102 = .ok (.aload_n 0, 1) := by decide +kernel
theorem dX4_book_103 : decode cX4_book 103 = .ok (.getfield 85, 3) := by decide +kernel
theorem dX4_book_106 : decode cX4_book 106 = .ok (.aaload, 1) := by decide +kernel
theorem dX4_book_107 : decode cX4_book 107 = .ok (.iload_n 1, 1) := by decide +kernel
theorem dX4_book_108 : decode cX4_book 108 = .ok (.iload_n 2, 1) := by decide +kernel
theorem dX4_book_109 : decode cX4_book 109 = .ok (.iload_n 3, 1) := by decide +kernel
theorem dX4_book_110 : decode cX4_book 110 = .ok (.iload 4, 2) := by decide +kernel
theorem dX4_book_112 : decode cX4_book 112 = .ok (.iload 5, 2) := by decide +kernel
theorem dX4_book_114 : decode cX4_book 114 = .ok (.iload 6, 2) := by decide +kernel
theorem dX4_book_116 : decode cX4_book 116 = .ok (.invokevirtual 90, 3) := by decide +kernel
theorem dX4_book_119 : decode cX4_book 119 = .ok (.aload_n 0, 1) := by decide +kernel
theorem dX4_book_120 : decode cX4_book 120 = .ok (.getfield 17, 3) := by decide +kernel
theorem dX4_book_123 : decode cX4_book 123 = .ok (.aload_n 0, 1) := by decide +kernel
theorem dX4_book_124 : decode cX4_book 124 = .ok (.getfield 85, 3) := by decide +kernel
theorem dX4_book_127 : decode cX4_book 127 = .ok (.aaload, 1) := by decide +kernel
theorem dX4_book_128 : decode cX4_book 128 = .ok (.aload_n 0, 1) := by decide +kernel
theorem dX4_book_129 : decode cX4_book 129 = .ok (.getfield 94, 3) := by decide +kernel
theorem dX4_book_132 : decode cX4_book 132 = .ok (.putfield 97, 3) := by decide +kernel
theorem dX4_book_135 : decode cX4_book 135 = .ok (.aload_n 0, 1) := by decide +kernel
theorem dX4_book_136 : decode cX4_book 136 = .ok (.dup, 1) := by decide +kernel
theorem dX4_book_137 : decode cX4_book 137 = .ok (.getfield 85, 3) := by decide +kernel
theorem dX4_book_140 : decode cX4_book 140 = .ok (.iconst 1, 1) := by decide +kernel
theorem dX4_book_141 : decode cX4_book 141 = .ok (.iadd, 1) := by decide +kernel
theorem dX4_book_142 : decode cX4_book 142 = .ok (.putfield 85, 3) := by decide +kernel
theorem dX4_book_145 : decode cX4_book 145 = .ok (.aload_n 0, 1) := by decide +kernel
theorem dX4_book_146 : decode cX4_book 146 = .ok (.getfield 85, 3) := by decide +kernel
theorem dX4_book_149 : decode cX4_book 149 = .ok (.iconst 1, 1) := by decide +kernel
theorem dX4_book_150 : decode cX4_book 150 = .ok (.isub, 1) := by decide +kernel
theorem dX4_book_151 : decode cX4_book 151 = .ok (.ireturn, 1) := by decide +kernel
set_option maxRecDepth 20000 in
theorem ggX4_judge_X4_isWithin : GoodIn wsX4_judge wsX4_isWithin := goodIn_r _ [11] (by decide +kernel) (by decide +kernel)
set_option maxRecDepth 20000 in
theorem gX4_judge_X4_isWithin : GoodIn wsX4_judge (va_wsS RX4 76 yX4_isWithin wsX4_isWithin) := goodIn_app (goodIn_of _ (by decide +kernel)) ggX4_judge_X4_isWithin
set_option maxRecDepth 20000 in
theorem ggX4_judge_X2_describe : GoodIn wsX4_judge wsX2_describe := goodIn_r _ [16, 17, 18, 19, 39, 40, 41, 42, 43, 44, 45, 46, 47, 48, 49, 50, 51, 52, 53, 54] (by decide +kernel) (by decide +kernel)
set_option maxRecDepth 20000 in
theorem gX4_judge_X2_describe : GoodIn wsX4_judge (wsV RX4 107 RX2 yX2_describe wsX2_describe) := goodIn_app (goodIn_of _ (by decide +kernel)) ggX4_judge_X2_describe
theorem dX4_judge_0 : decode cX4_judge 0 = .ok (.iload_n 1, 1) := by decide +kernel
theorem dX4_judge_1 : decode cX4_judge 1 = .ok (.bipush 20, 2) := by decide +kernel
theorem dX4_judge_3 : decode cX4_judge 3 = .ok (.sipush 200, 3) := by decide +kernel
theorem dX4_judge_6 : decode cX4_judge 6 = .ok (.invokestatic 76, 3) := by decide +kernel
theorem dX4_judge_9 : decode cX4_judge 9 = .ok (.ifCond .eq 24, 3) := by decide +kernel
theorem dX4_judge_12 : decode cX4_judge 12 = .ok (.iload_n 2, 1) := by decide +kernel
theorem dX4_judge_13 : decode cX4_judge 13 = .ok (.iconst 0, 1) := by decide +kernel
theorem dX4_judge_14 : decode cX4_judge 14 = .ok (.bipush 9, 2) := by decide +kernel
theorem dX4_judge_16 : decode cX4_judge 16 = .ok (.invokestatic 76, 3) := by decide +kernel
theorem dX4_judge_19 : decode cX4_judge 19 = .ok (.ifCond .eq 14, 3) := by decide +kernel
theorem dX4_judge_22 : decode cX4_judge 22 = .ok (.iload_n 3, 1) := by decide +kernel
theorem dX4_judge_23 : decode cX4_judge 23 = .ok (.bipush (-10), 2) := by decide +kernel
theorem dX4_judge_25 : decode cX4_judge 25 = .ok (.bipush 10, 2) := by decide +kernel
theorem dX4_judge_27 : decode cX4_judge 27 = .ok (.invokestatic 76, 3) := by decide +kernel
theorem dX4_judge_30 : decode cX4_judge 30 = .ok (.ifCond .ne 13, 3) := by decide +kernel
theorem dX4_judge_33 : decode cX4_judge 33 = .ok (.new 80, 3) := by decide +kernel
theorem dX4_judge_36 : decode cX4_judge 36 = .ok (.dup, 1) := by decide +kernel
theorem dX4_judge_37 : decode cX4_judge 37 = .ok (.ldc 100, 2) := by decide +kernel
theorem dX4_judge_39 : decode cX4_judge 39 = .ok (.invokespecial 84, 3) := by decide +kernel
theorem dX4_judge_42 : decode cX4_judge 42 = .ok (.athrow, 1) := by decide +kernel
theorem dX4_judge_43 : decode cX4_judge 43 = .ok (.aload_n 0, 1) := by decide +kernel
theorem dX4_judge_44 : decode cX4_judge 44 = .ok (.getfield 102, 3) := by decide +kernel
theorem dX4_judge_47 : decode cX4_judge 47 = .ok (.iconst 5, 1) := by decide +kernel
theorem dX4_judge_48 : decode cX4_judge 48 = .ok (.if_icmp .ge 10, 3) := by decide +kernel
theorem dX4_judge_51 : decode cX4_judge 51 = .ok (.aload_n 0, 1) := by decide +kernel
theorem dX4_judge_52 : decode cX4_judge 52 = .ok (.getfield 37, 3) := by decide +kernel
theorem dX4_judge_55 : decode cX4_judge 55 = .ok (.ifCond .eq 13, 3) := by decide +kernel
theorem dX4_judge_58 : decode cX4_judge 58 = .ok (.new 57, 3) := by decide +kernel
theorem dX4_judge_61 : decode cX4_judge 61 = .ok (.dup, 1) := by decide +kernel
theorem dX4_judge_62 : decode cX4_judge 62 = .ok (.ldc 105, 2) := by decide +kernel
theorem dX4_judge_64 : decode cX4_judge 64 = .ok (.invokespecial 61, 3) := by decide +kernel
theorem dX4_judge_67 : decode cX4_judge 67 = .ok (.athrow, 1) := by decide +kernel
theorem dX4_judge_68 : decode cX4_judge 68 = .ok (.aload_n 0, 1) := by decide +kernel
theorem dX4_judge_69 : decode cX4_judge 69 = .ok (.getfield 23, 3) := by decide +kernel
theorem dX4_judge_72 : decode cX4_judge 72 = .ok (.aload_n 0, 1) := by decide +kernel
theorem dX4_judge_73 : decode cX4_judge 73 = .ok (.getfield 102, 3) := by decide +kernel
theorem dX4_judge_76 : decode cX4_judge 76 = .ok (.aaload, 1) := by decide +kernel
theorem dX4_judge_77 : decode cX4_judge 77 = .ok (.iload_n 1, 1) := by decide +kernel
theorem dX4_judge_78 : decode cX4_judge 78 = .ok (.iload_n 2, 1) := by decide +kernel
theorem dX4_judge_79 : decode cX4_judge 79 = .ok (.iload_n 3, 1) := by decide +kernel
theorem dX4_judge_80 : decode cX4_judge 80 = .ok (.invokevirtual 107, 3) := by decide +kernel
theorem dX4_judge_83 : decode cX4_judge 83 = .ok (.aload_n 0, 1) := by decide +kernel
theorem dX4_judge_84 : decode cX4_judge 84 = .ok (.dup, 1) := by decide +kernel
theorem dX4_judge_85 : decode cX4_judge 85 = .ok (.getfield 102, 3) := by decide +kernel
theorem dX4_judge_88 : decode cX4_judge 88 = .ok (.iconst 1, 1) := by decide +kernel
theorem dX4_judge_89 : decode cX4_judge 89 = .ok (.iadd, 1) := by decide +kernel
theorem dX4_judge_90 : decode cX4_judge 90 = .ok (.putfield 102, 3) := by decide +kernel
theorem dX4_judge_93 : decode cX4_judge 93 = .ok (.aload_n 0, 1) := by decide +kernel
theorem dX4_judge_94 : decode cX4_judge 94 = .ok (.getfield 102, 3) := by decide +kernel
theorem dX4_judge_97 : decode cX4_judge 97 = .ok (.iconst 1, 1) := by decide +kernel
theorem dX4_judge_98 : decode cX4_judge 98 = .ok (.isub, 1) := by decide +kernel
theorem dX4_judge_99 : decode cX4_judge 99 = .ok (.ireturn, 1) := by decide +kernel
set_option maxRecDepth 20000 in
theorem ggX4_conflict_X4_isJudge : GoodIn wsX4_conflict wsX4_isJudge := goodIn_r _ [11, 12, 29, 30, 31, 32, 33, 34, 35, 36, 37, 38, 39, 40, 41, 42, 43, 44, 45, 46, 47] (by decide +kernel) (by decide +kernel)
set_option maxRecDepth 20000 in
theorem gX4_conflict_X4_isJudge : GoodIn wsX4_conflict (wsV RX4 110 RX4 yX4_isJudge wsX4_isJudge) := goodIn_app (goodIn_of _ (by decide +kernel)) ggX4_conflict_X4_isJudge
set_option maxRecDepth 20000 in
theorem ggX4_conflict_X4_isAuthor : GoodIn wsX4_conflict wsX4_isAuthor := goodIn_r _ [15, 16, 17, 10, 18] (by decide +kernel) (by decide +kernel)
set_option maxRecDepth 20000 in
theorem gX4_conflict_X4_isAuthor : GoodIn wsX4_conflict (va_wsS RX4 73 yX4_isAuthor wsX4_isAuthor) := goodIn_app (goodIn_of _ (by decide +kernel)) ggX4_conflict_X4_isAuthor
set_option maxRecDepth 20000 in
theorem ggX4_conflict_X4_bit : GoodIn wsX4_conflict wsX4_bit := goodIn_r _ [21] (by decide +kernel) (by decide +kernel)
set_option maxRecDepth 20000 in
theorem gX4_conflict_X4_bit : GoodIn wsX4_conflict (va_wsS RX4 120 yX4_bit wsX4_bit) := goodIn_app (goodIn_of _ (by decide +kernel)) ggX4_conflict_X4_bit
set_option maxRecDepth 20000 in
theorem ggX4_conflict_J6_bitCount_0f7a4 : GoodIn wsX4_conflict wsJ6_bitCount_0f7a4 := goodIn_r _ [25, 26, 27, 28] (by decide +kernel) (by decide +kernel)
set_option maxRecDepth 20000 in
theorem gX4_conflict_J6_bitCount_0f7a4 : GoodIn wsX4_conflict (va_wsS RX4 124 yJ6_bitCount_0f7a4 wsJ6_bitCount_0f7a4) := goodIn_app (goodIn_of _ (by decide +kernel)) ggX4_conflict_J6_bitCount_0f7a4
theorem dX4_conflict_0 : decode cX4_conflict 0 = .ok (.aload_n 0, 1) := by decide +kernel
theorem dX4_conflict_1 : decode cX4_conflict 1 = .ok (.iload_n 1, 1) := by decide +kernel
theorem dX4_conflict_2 : decode cX4_conflict 2 = .ok (.invokevirtual 110, 3) := by decide +kernel
theorem dX4_conflict_5 : decode cX4_conflict 5 = .ok (.ifCond .ne 13, 3) := by decide +kernel
theorem dX4_conflict_8 : decode cX4_conflict 8 = .ok (.new 68, 3) := by decide +kernel
theorem dX4_conflict_11 : decode cX4_conflict 11 = .ok (.dup, 1) := by decide +kernel
theorem dX4_conflict_12 : decode cX4_conflict 12 = .ok (.ldc 113, 2) := by decide +kernel
theorem dX4_conflict_14 : decode cX4_conflict 14 = .ok (.invokespecial 72, 3) := by decide +kernel
theorem dX4_conflict_17 : decode cX4_conflict 17 = .ok (.athrow, 1) := by decide +kernel
theorem dX4_conflict_18 : decode cX4_conflict 18 = .ok (.iload_n 2, 1) := by decide +kernel
theorem dX4_conflict_19 : decode cX4_conflict 19 = .ok (.invokestatic 73, 3) := by decide +kernel
theorem dX4_conflict_22 : decode cX4_conflict 22 = .ok (.ifCond .ne 13, 3) := by decide +kernel
theorem dX4_conflict_25 : decode cX4_conflict 25 = .ok (.new 80, 3) := by decide +kernel
theorem dX4_conflict_28 : decode cX4_conflict 28 = .ok (.dup, 1) := by decide +kernel
theorem dX4_conflict_29 : decode cX4_conflict 29 = .ok (.ldc 115, 2) := by decide +kernel
theorem dX4_conflict_31 : decode cX4_conflict 31 = .ok (.invokespecial 84, 3) := by decide +kernel
theorem dX4_conflict_34 : decode cX4_conflict 34 = .ok (.athrow, 1) := by decide +kernel
theorem dX4_conflict_35 : decode cX4_conflict 35 = .ok (.aload_n 0, 1) := by decide +kernel
theorem dX4_conflict_36 : decode cX4_conflict 36 = .ok (.getfield 23, 3) := by decide +kernel
theorem dX4_conflict_39 : decode cX4_conflict 39 = .ok (.iload_n 1, 1) := by decide +kernel
theorem dX4_conflict_40 : decode cX4_conflict 40 = .ok (.aaload, 1) := by decide +kernel
theorem dX4_conflict_41 : decode cX4_conflict 41 = .ok (.dup, 1) := by decide +kernel
theorem dX4_conflict_42 : decode cX4_conflict 42 = .ok (.getfield 117, 3) := by decide +kernel
theorem dX4_conflict_45 : decode cX4_conflict 45 = .ok (.iload_n 2, 1) := by decide +kernel
theorem dX4_conflict_46 : decode cX4_conflict 46 = .ok (.invokestatic 120, 3) := by decide +kernel
theorem dX4_conflict_49 : decode cX4_conflict 49 = .ok (.ior, 1) := by decide +kernel
theorem dX4_conflict_50 : decode cX4_conflict 50 = .ok (.putfield 117, 3) := by decide +kernel
theorem dX4_conflict_53 : decode cX4_conflict 53 = .ok (.aload_n 0, 1) := by decide +kernel
theorem dX4_conflict_54 : decode cX4_conflict 54 = .ok (.getfield 23, 3) := by decide +kernel
theorem dX4_conflict_57 : decode cX4_conflict 57 = .ok (.iload_n 1, 1) := by decide +kernel
theorem dX4_conflict_58 : decode cX4_conflict 58 = .ok (.aaload, 1) := by decide +kernel
theorem dX4_conflict_59 : decode cX4_conflict 59 = .ok (.getfield 117, 3) := by decide +kernel
theorem dX4_conflict_62 : decode cX4_conflict 62 = .ok (.invokestatic 124, 3) := by decide +kernel
theorem dX4_conflict_65 : decode cX4_conflict 65 = .ok (.ireturn, 1) := by decide +kernel
set_option maxRecDepth 20000 in
theorem ggX4_rules_X4_isWithin : GoodIn wsX4_rules wsX4_isWithin := goodIn_r _ [9] (by decide +kernel) (by decide +kernel)
set_option maxRecDepth 20000 in
theorem gX4_rules_X4_isWithin : GoodIn wsX4_rules (va_wsS RX4 76 yX4_isWithin wsX4_isWithin) := goodIn_app (goodIn_of _ (by decide +kernel)) ggX4_rules_X4_isWithin
set_option maxRecDepth 20000 in
theorem ggX4_rules_X3_set : GoodIn wsX4_rules wsX3_set := goodIn_r _ [14, 15, 16, 17, 18, 38, 39, 40, 41] (by decide +kernel) (by decide +kernel)
set_option maxRecDepth 20000 in
theorem gX4_rules_X3_set : GoodIn wsX4_rules (wsV RX4 131 RX3 yX3_set wsX3_set) := goodIn_app (goodIn_of _ (by decide +kernel)) ggX4_rules_X3_set
theorem dX4_rules_0 : decode cX4_rules 0 = .ok (.iload_n 1, 1) := by decide +kernel
theorem dX4_rules_1 : decode cX4_rules 1 = .ok (.iconst 1, 1) := by decide +kernel
theorem dX4_rules_2 : decode cX4_rules 2 = .ok (.bipush 7, 2) := by decide +kernel
theorem dX4_rules_4 : decode cX4_rules 4 = .ok (.invokestatic 76, 3) := by decide +kernel
theorem dX4_rules_7 : decode cX4_rules 7 = .ok (.ifCond .eq 31, 3) := by decide +kernel
theorem dX4_rules_10 : decode cX4_rules 10 = .ok (.iload_n 2, 1) := by decide +kernel
theorem dX4_rules_11 : decode cX4_rules 11 = .ok (.bipush 50, 2) := by decide +kernel
theorem dX4_rules_13 : decode cX4_rules 13 = .ok (.iload_n 3, 1) := by decide +kernel
theorem dX4_rules_14 : decode cX4_rules 14 = .ok (.invokestatic 76, 3) := by decide +kernel
theorem dX4_rules_17 : decode cX4_rules 17 = .ok (.ifCond .eq 21, 3) := by decide +kernel
theorem dX4_rules_20 : decode cX4_rules 20 = .ok (.iload_n 3, 1) := by decide +kernel
theorem dX4_rules_21 : decode cX4_rules 21 = .ok (.sipush 900, 3) := by decide +kernel
theorem dX4_rules_24 : decode cX4_rules 24 = .ok (.if_icmp .gt 14, 3) := by decide +kernel
theorem dX4_rules_27 : decode cX4_rules 27 = .ok (.iload 4, 2) := by decide +kernel
theorem dX4_rules_29 : decode cX4_rules 29 = .ok (.iconst 0, 1) := by decide +kernel
theorem dX4_rules_30 : decode cX4_rules 30 = .ok (.bipush 50, 2) := by decide +kernel
theorem dX4_rules_32 : decode cX4_rules 32 = .ok (.invokestatic 76, 3) := by decide +kernel
theorem dX4_rules_35 : decode cX4_rules 35 = .ok (.ifCond .ne 13, 3) := by decide +kernel
theorem dX4_rules_38 : decode cX4_rules 38 = .ok (.new 80, 3) := by decide +kernel
theorem dX4_rules_41 : decode cX4_rules 41 = .ok (.dup, 1) := by decide +kernel
theorem dX4_rules_42 : decode cX4_rules 42 = .ok (.ldc 129, 2) := by decide +kernel
theorem dX4_rules_44 : decode cX4_rules 44 = .ok (.invokespecial 84, 3) := by decide +kernel
theorem dX4_rules_47 : decode cX4_rules 47 = .ok (.athrow, 1) := by decide +kernel
theorem dX4_rules_48 : decode cX4_rules 48 = .ok (.aload_n 0, 1) := by decide +kernel
theorem dX4_rules_49 : decode cX4_rules 49 = .ok (.getfield 34, 3) := by decide +kernel
theorem dX4_rules_52 : decode cX4_rules 52 = .ok (.iload_n 1, 1) := by decide +kernel
theorem dX4_rules_53 : decode cX4_rules 53 = .ok (.iload_n 2, 1) := by decide +kernel
theorem dX4_rules_54 : decode cX4_rules 54 = .ok (.iload_n 3, 1) := by decide +kernel
theorem dX4_rules_55 : decode cX4_rules 55 = .ok (.iload 4, 2) := by decide +kernel
theorem dX4_rules_57 : decode cX4_rules 57 = .ok (.invokevirtual 131, 3) := by decide +kernel
theorem dX4_rules_60 : decode cX4_rules 60 = .ok (.aload_n 0, 1) := by decide +kernel
theorem dX4_rules_61 : decode cX4_rules 61 = .ok (.getfield 30, 3) := by decide +kernel
theorem dX4_rules_64 : decode cX4_rules 64 = .ok (.getfield 135, 3) := by decide +kernel
theorem dX4_rules_67 : decode cX4_rules 67 = .ok (.ireturn, 1) := by decide +kernel
set_option maxRecDepth 20000 in
theorem ggX4_enter_X4_isBook : GoodIn wsX4_enter wsX4_isBook := goodIn_r _ [16, 17, 66, 67, 68, 69, 70, 71, 72, 73, 74, 75, 76, 77, 78, 79, 80, 81, 82, 83, 84] (by decide +kernel) (by decide +kernel)
set_option maxRecDepth 20000 in
theorem gX4_enter_X4_isBook : GoodIn wsX4_enter (wsV RX4 138 RX4 yX4_isBook wsX4_isBook) := goodIn_app (goodIn_of _ (by decide +kernel)) ggX4_enter_X4_isBook
set_option maxRecDepth 20000 in
theorem ggX4_enter_X4_isEntered : GoodIn wsX4_enter wsX4_isEntered := goodIn_r _ [21, 6, 22, 23, 66, 67, 68, 69, 70, 71, 72, 73, 74, 75, 76, 77, 78, 79, 80, 81, 82, 83, 84, 85, 86, 87, 88, 89, 90, 91, 92, 93, 94, 95] (by decide +kernel) (by decide +kernel)
set_option maxRecDepth 20000 in
theorem gX4_enter_X4_isEntered : GoodIn wsX4_enter (wsV RX4 143 RX4 yX4_isEntered wsX4_isEntered) := goodIn_app (goodIn_of _ (by decide +kernel)) ggX4_enter_X4_isEntered
set_option maxRecDepth 20000 in
theorem ggX4_enter_X4_isEligible : GoodIn wsX4_enter wsX4_isEligible := goodIn_r _ [27, 6, 22, 23, 28, 10, 29, 30, 31, 32, 33, 34, 35, 36, 37, 38, 39, 15, 40, 41, 42, 66, 67, 68, 69, 70, 71, 72, 73, 74, 75, 76, 77, 78, 79, 80, 81, 82, 83, 84, 85, 86, 87, 88, 89, 90, 91, 92, 93, 94, 95, 98, 99, 100, 101] (by decide +kernel) (by decide +kernel)
set_option maxRecDepth 20000 in
theorem gX4_enter_X4_isEligible : GoodIn wsX4_enter (wsV RX4 148 RX4 yX4_isEligible wsX4_isEligible) := goodIn_app (goodIn_of _ (by decide +kernel)) ggX4_enter_X4_isEligible
set_option maxRecDepth 20000 in
theorem ggX4_enter_X4_quotaOf : GoodIn wsX4_enter wsX4_quotaOf := goodIn_r _ [46, 47, 48, 49, 50, 51, 52, 53, 54, 15, 55, 17, 6, 7, 56, 39, 40, 66, 67, 68, 69, 70, 71, 72, 73, 74, 75, 76, 77, 78, 79, 80, 81, 82, 83, 84, 85, 86, 87, 88, 89, 90, 91, 92, 93, 94, 95] (by decide +kernel) (by decide +kernel)
set_option maxRecDepth 20000 in
theorem gX4_enter_X4_quotaOf : GoodIn wsX4_enter (wsV RX4 157 RX4 yX4_quotaOf wsX4_quotaOf) := goodIn_app (goodIn_of _ (by decide +kernel)) ggX4_enter_X4_quotaOf
set_option maxRecDepth 20000 in
theorem ggX4_enter_X4_enterFor : GoodIn wsX4_enter wsX4_enterFor := goodIn_r _ [60, 6, 23, 22, 8, 7, 61, 62, 63, 64, 15, 65, 17, 18, 19, 20, 21, 66, 67, 68, 69, 70, 71, 72, 73, 74, 75, 76, 77, 78, 79, 80, 81, 82, 83, 84, 85, 86, 87, 88, 89, 90, 91, 92, 93, 94, 95, 96, 97] (by decide +kernel) (by decide +kernel)
set_option maxRecDepth 20000 in
theorem gX4_enter_X4_enterFor : GoodIn wsX4_enter (wsV RX4 160 RX4 yX4_enterFor wsX4_enterFor) := goodIn_app (goodIn_of _ (by decide +kernel)) ggX4_enter_X4_enterFor
theorem dX4_enter_0 : decode cX4_enter 0 = .ok (.aload_n 0, 1) := by decide +kernel
theorem dX4_enter_1 : decode cX4_enter 1 = .ok (.iload_n 1, 1) := by decide +kernel
theorem dX4_enter_2 : decode cX4_enter 2 = .ok (.invokevirtual 138, 3) := by decide +kernel
theorem dX4_enter_5 : decode cX4_enter 5 = .ok (.ifCond .ne 13, 3) := by decide +kernel
theorem dX4_enter_8 : decode cX4_enter 8 = .ok (.new 68, 3) := by decide +kernel
theorem dX4_enter_11 : decode cX4_enter 11 = .ok (.dup, 1) := by decide +kernel
theorem dX4_enter_12 : decode cX4_enter 12 = .ok (.ldc 141, 2) := by decide +kernel
theorem dX4_enter_14 : decode cX4_enter 14 = .ok (.invokespecial 72, 3) := by decide +kernel
theorem dX4_enter_17 : decode cX4_enter 17 = .ok (.athrow, 1) := by decide +kernel
theorem dX4_enter_18 : decode cX4_enter 18 = .ok (.aload_n 0, 1) := by decide +kernel
theorem dX4_enter_19 : decode cX4_enter 19 = .ok (.getfield 37, 3) := by decide +kernel
theorem dX4_enter_22 : decode cX4_enter 22 = .ok (.ifCond .ne 11, 3) := by decide +kernel
theorem dX4_enter_25 : decode cX4_enter 25 = .ok (.aload_n 0, 1) := by decide +kernel
theorem dX4_enter_26 : decode cX4_enter 26 = .ok (.iload_n 1, 1) := by decide +kernel
theorem dX4_enter_27 : decode cX4_enter 27 = .ok (.invokevirtual 143, 3) := by decide +kernel
theorem dX4_enter_30 : decode cX4_enter 30 = .ok (.ifCond .eq 13, 3) := by decide +kernel
theorem dX4_enter_33 : decode cX4_enter 33 = .ok (.new 57, 3) := by decide +kernel
theorem dX4_enter_36 : decode cX4_enter 36 = .ok (.dup, 1) := by decide +kernel
theorem dX4_enter_37 : decode cX4_enter 37 = .ok (.ldc 146, 2) := by decide +kernel
theorem dX4_enter_39 : decode cX4_enter 39 = .ok (.invokespecial 61, 3) := by decide +kernel
theorem dX4_enter_42 : decode cX4_enter 42 = .ok (.athrow, 1) := by decide +kernel
theorem dX4_enter_43 : decode cX4_enter 43 = .ok (.aload_n 0, 1) := by decide +kernel
theorem dX4_enter_44 : decode cX4_enter 44 = .ok (.iload_n 1, 1) := by decide +kernel
theorem dX4_enter_45 : decode cX4_enter 45 = .ok (.invokevirtual 148, 3) := by decide +kernel
theorem dX4_enter_48 : decode cX4_enter 48 = .ok (.ifCond .ne 6, 3) := by decide +kernel
theorem dX4_enter_51 : decode cX4_enter 51 = .ok (.bipush (-2), 2) := by decide +kernel
theorem dX4_enter_53 : decode cX4_enter 53 = .ok (.ireturn, 1) := by decide +kernel
theorem dX4_enter_54 : decode cX4_enter 54 = .ok (.aload_n 0, 1) := by decide +kernel
theorem dX4_enter_55 : decode cX4_enter 55 = .ok (.getfield 17, 3) := by decide +kernel
theorem dX4_enter_58 : decode cX4_enter 58 = .ok (.iload_n 1, 1) := by decide +kernel
theorem dX4_enter_59 : decode cX4_enter 59 = .ok (.aaload, 1) := by decide +kernel
theorem dX4_enter_60 : decode cX4_enter 60 = .ok (.getfield 151, 3) := by decide +kernel
theorem dX4_enter_63 : decode cX4_enter 63 = .ok (.istore_n 2, 1) := by decide +kernel
theorem dX4_enter_64 : decode cX4_enter 64 = .ok (.aload_n 0, 1) := by decide +kernel
theorem dX4_enter_65 : decode cX4_enter 65 = .ok (.getfield 11, 3) := by decide +kernel
theorem dX4_enter_68 : decode cX4_enter 68 = .ok (.iload_n 2, 1) := by decide +kernel
theorem dX4_enter_69 : decode cX4_enter 69 = .ok (.aaload, 1) := by decide +kernel
theorem dX4_enter_70 : decode cX4_enter 70 = .ok (.getfield 154, 3) := by decide +kernel
theorem dX4_enter_73 : decode cX4_enter 73 = .ok (.aload_n 0, 1) := by decide +kernel
theorem dX4_enter_74 : decode cX4_enter 74 = .ok (.iload_n 2, 1) := by decide +kernel
theorem dX4_enter_75 : decode cX4_enter 75 = .ok (.invokevirtual 157, 3) := by decide +kernel
theorem dX4_enter_78 : decode cX4_enter 78 = .ok (.if_icmp .lt 6, 3) := by decide +kernel
theorem dX4_enter_81 : decode cX4_enter 81 = .ok (.bipush (-3), 2) := by decide +kernel
theorem dX4_enter_83 : decode cX4_enter 83 = .ok (.ireturn, 1) := by decide +kernel
theorem dX4_enter_84 : decode cX4_enter 84 = .ok (.aload_n 0, 1) := by decide +kernel
theorem dX4_enter_85 : decode cX4_enter 85 = .ok (.getfield 11, 3) := by decide +kernel
theorem dX4_enter_88 : decode cX4_enter 88 = .ok (.iload_n 2, 1) := by decide +kernel
theorem dX4_enter_89 : decode cX4_enter 89 = .ok (.aaload, 1) := by decide +kernel
theorem dX4_enter_90 : decode cX4_enter 90 = .ok (.dup, 1) := by decide +kernel
theorem dX4_enter_91 : decode cX4_enter 91 = .ok (.getfield 154, 3) := by decide +kernel
theorem dX4_enter_94 : decode cX4_enter 94 = .ok (.iconst 1, 1) := by decide +kernel
theorem dX4_enter_95 : decode cX4_enter 95 = .ok (.iadd, 1) := by decide +kernel
theorem dX4_enter_96 : decode cX4_enter 96 = .ok (.putfield 154, 3) := by decide +kernel
theorem dX4_enter_99 : decode cX4_enter 99 = .ok (.aload_n 0, 1) := by decide +kernel
theorem dX4_enter_100 : decode cX4_enter 100 = .ok (.iload_n 1, 1) := by decide +kernel
theorem dX4_enter_101 : decode cX4_enter 101 = .ok (.aload_n 0, 1) := by decide +kernel
theorem dX4_enter_102 : decode cX4_enter 102 = .ok (.getfield 30, 3) := by decide +kernel
theorem dX4_enter_105 : decode cX4_enter 105 = .ok (.getfield 135, 3) := by decide +kernel
theorem dX4_enter_108 : decode cX4_enter 108 = .ok (.invokevirtual 160, 3) := by decide +kernel
theorem dX4_enter_111 : decode cX4_enter 111 = .ok (.ireturn, 1) := by decide +kernel
set_option maxRecDepth 20000 in
theorem ggX4_callIn_X4_isJudge : GoodIn wsX4_callIn wsX4_isJudge := goodIn_r _ [16, 17, 65, 66, 67, 68, 69, 70, 71, 72, 73, 74, 75, 76, 77, 78, 79, 80, 81, 82, 83] (by decide +kernel) (by decide +kernel)
set_option maxRecDepth 20000 in
theorem gX4_callIn_X4_isJudge : GoodIn wsX4_callIn (wsV RX4 110 RX4 yX4_isJudge wsX4_isJudge) := goodIn_app (goodIn_of _ (by decide +kernel)) ggX4_callIn_X4_isJudge
set_option maxRecDepth 20000 in
theorem ggX4_callIn_X4_isBook : GoodIn wsX4_callIn wsX4_isBook := goodIn_r _ [21, 22, 65, 66, 67, 68, 69, 70, 71, 72, 73, 74, 75, 76, 77, 78, 79, 80, 81, 82, 83] (by decide +kernel) (by decide +kernel)
set_option maxRecDepth 20000 in
theorem gX4_callIn_X4_isBook : GoodIn wsX4_callIn (wsV RX4 138 RX4 yX4_isBook wsX4_isBook) := goodIn_app (goodIn_of _ (by decide +kernel)) ggX4_callIn_X4_isBook
set_option maxRecDepth 20000 in
theorem ggX4_callIn_X4_isEntered : GoodIn wsX4_callIn wsX4_isEntered := goodIn_r _ [26, 8, 27, 28, 65, 66, 67, 68, 69, 70, 71, 72, 73, 74, 75, 76, 77, 78, 79, 80, 81, 82, 83, 100, 101, 102, 103, 104, 105, 106, 107, 108, 109, 110] (by decide +kernel) (by decide +kernel)
set_option maxRecDepth 20000 in
theorem gX4_callIn_X4_isEntered : GoodIn wsX4_callIn (wsV RX4 143 RX4 yX4_isEntered wsX4_isEntered) := goodIn_app (goodIn_of _ (by decide +kernel)) ggX4_callIn_X4_isEntered
set_option maxRecDepth 20000 in
theorem ggX4_callIn_X4_isEligible : GoodIn wsX4_callIn wsX4_isEligible := goodIn_r _ [32, 8, 27, 28, 33, 10, 34, 35, 36, 37, 38, 39, 40, 41, 42, 43, 44, 15, 45, 46, 47, 65, 66, 67, 68, 69, 70, 71, 72, 73, 74, 75, 76, 77, 78, 79, 80, 81, 82, 83, 100, 101, 102, 103, 104, 105, 106, 107, 108, 109, 110, 111, 112, 113, 114] (by decide +kernel) (by decide +kernel)
set_option maxRecDepth 20000 in
theorem gX4_callIn_X4_isEligible : GoodIn wsX4_callIn (wsV RX4 148 RX4 yX4_isEligible wsX4_isEligible) := goodIn_app (goodIn_of _ (by decide +kernel)) ggX4_callIn_X4_isEligible
set_option maxRecDepth 20000 in
theorem ggX4_callIn_X2_isAgainst : GoodIn wsX4_callIn wsX2_isAgainst := goodIn_r _ [52, 53, 84, 85, 86, 87, 88, 89, 90, 91, 92, 93, 94, 95, 96, 97, 98, 99] (by decide +kernel) (by decide +kernel)
set_option maxRecDepth 20000 in
theorem gX4_callIn_X2_isAgainst : GoodIn wsX4_callIn (wsV RX4 173 RX2 yX2_isAgainst wsX2_isAgainst) := goodIn_app (goodIn_of _ (by decide +kernel)) ggX4_callIn_X2_isAgainst
set_option maxRecDepth 20000 in
theorem ggX4_callIn_X4_enterFor : GoodIn wsX4_callIn wsX4_enterFor := goodIn_r _ [57, 8, 28, 27, 58, 59, 60, 61, 62, 63, 15, 64, 22, 23, 24, 25, 26, 65, 66, 67, 68, 69, 70, 71, 72, 73, 74, 75, 76, 77, 78, 79, 80, 81, 82, 83, 100, 101, 102, 103, 104, 105, 106, 107, 108, 109, 110, 115, 116] (by decide +kernel) (by decide +kernel)
set_option maxRecDepth 20000 in
theorem gX4_callIn_X4_enterFor : GoodIn wsX4_callIn (wsV RX4 160 RX4 yX4_enterFor wsX4_enterFor) := goodIn_app (goodIn_of _ (by decide +kernel)) ggX4_callIn_X4_enterFor
theorem dX4_callIn_0 : decode cX4_callIn 0 = .ok (.aload_n 0, 1) := by decide +kernel
theorem dX4_callIn_1 : decode cX4_callIn 1 = .ok (.iload_n 1, 1) := by decide +kernel
theorem dX4_callIn_2 : decode cX4_callIn 2 = .ok (.invokevirtual 110, 3) := by decide +kernel
theorem dX4_callIn_5 : decode cX4_callIn 5 = .ok (.ifCond .eq 11, 3) := by decide +kernel
theorem dX4_callIn_8 : decode cX4_callIn 8 = .ok (.aload_n 0, 1) := by decide +kernel
theorem dX4_callIn_9 : decode cX4_callIn 9 = .ok (.iload_n 2, 1) := by decide +kernel
theorem dX4_callIn_10 : decode cX4_callIn 10 = .ok (.invokevirtual 138, 3) := by decide +kernel
theorem dX4_callIn_13 : decode cX4_callIn 13 = .ok (.ifCond .ne 13, 3) := by decide +kernel
theorem dX4_callIn_16 : decode cX4_callIn 16 = .ok (.new 68, 3) := by decide +kernel
theorem dX4_callIn_19 : decode cX4_callIn 19 = .ok (.dup, 1) := by decide +kernel
theorem dX4_callIn_20 : decode cX4_callIn 20 = .ok (.ldc 164, 2) := by decide +kernel
theorem dX4_callIn_22 : decode cX4_callIn 22 = .ok (.invokespecial 72, 3) := by decide +kernel
theorem dX4_callIn_25 : decode cX4_callIn 25 = .ok (.athrow, 1) := by decide +kernel
theorem dX4_callIn_26 : decode cX4_callIn 26 = .ok (.aload_n 0, 1) := by decide +kernel
theorem dX4_callIn_27 : decode cX4_callIn 27 = .ok (.getfield 37, 3) := by decide +kernel
theorem dX4_callIn_30 : decode cX4_callIn 30 = .ok (.ifCond .ne 11, 3) := by decide +kernel
theorem dX4_callIn_33 : decode cX4_callIn 33 = .ok (.aload_n 0, 1) := by decide +kernel
theorem dX4_callIn_34 : decode cX4_callIn 34 = .ok (.iload_n 2, 1) := by decide +kernel
theorem dX4_callIn_35 : decode cX4_callIn 35 = .ok (.invokevirtual 143, 3) := by decide +kernel
theorem dX4_callIn_38 : decode cX4_callIn 38 = .ok (.ifCond .eq 13, 3) := by decide +kernel
theorem dX4_callIn_41 : decode cX4_callIn 41 = .ok (.new 57, 3) := by decide +kernel
theorem dX4_callIn_44 : decode cX4_callIn 44 = .ok (.dup, 1) := by decide +kernel
theorem dX4_callIn_45 : decode cX4_callIn 45 = .ok (.ldc 146, 2) := by decide +kernel
theorem dX4_callIn_47 : decode cX4_callIn 47 = .ok (.invokespecial 61, 3) := by decide +kernel
theorem dX4_callIn_50 : decode cX4_callIn 50 = .ok (.athrow, 1) := by decide +kernel
theorem dX4_callIn_51 : decode cX4_callIn 51 = .ok (.aload_n 0, 1) := by decide +kernel
theorem dX4_callIn_52 : decode cX4_callIn 52 = .ok (.iload_n 2, 1) := by decide +kernel
theorem dX4_callIn_53 : decode cX4_callIn 53 = .ok (.invokevirtual 148, 3) := by decide +kernel
theorem dX4_callIn_56 : decode cX4_callIn 56 = .ok (.ifCond .ne 6, 3) := by decide +kernel
theorem dX4_callIn_59 : decode cX4_callIn 59 = .ok (.bipush (-2), 2) := by decide +kernel
theorem dX4_callIn_61 : decode cX4_callIn 61 = .ok (.ireturn, 1) := by decide +kernel
theorem dX4_callIn_62 : decode cX4_callIn 62 = .ok (.aload_n 0, 1) := by decide +kernel
theorem dX4_callIn_63 : decode cX4_callIn 63 = .ok (.getfield 23, 3) := by decide +kernel
theorem dX4_callIn_66 : decode cX4_callIn 66 = .ok (.iload_n 1, 1) := by decide +kernel
theorem dX4_callIn_67 : decode cX4_callIn 67 = .ok (.aaload, 1) := by decide +kernel
theorem dX4_callIn_68 : decode cX4_callIn 68 = .ok (.getfield 166, 3) := by decide +kernel
theorem dX4_callIn_71 : decode cX4_callIn 71 = .ok (.ifCond .ne 24, 3) := by decide +kernel
theorem dX4_callIn_74 : decode cX4_callIn 74 = .ok (.aload_n 0, 1) := by decide +kernel
theorem dX4_callIn_75 : decode cX4_callIn 75 = .ok (.getfield 23, 3) := by decide +kernel
theorem dX4_callIn_78 : decode cX4_callIn 78 = .ok (.iload_n 1, 1) := by decide +kernel
theorem dX4_callIn_79 : decode cX4_callIn 79 = .ok (.aaload, 1) := by decide +kernel
theorem dX4_callIn_80 : decode cX4_callIn 80 = .ok (.aload_n 0, 1) := by decide +kernel
theorem dX4_callIn_81 : decode cX4_callIn 81 = .ok (.getfield 17, 3) := by decide +kernel
theorem dX4_callIn_84 : decode cX4_callIn 84 = .ok (.iload_n 2, 1) := by decide +kernel
theorem dX4_callIn_85 : decode cX4_callIn 85 = .ok (.aaload, 1) := by decide +kernel
theorem dX4_callIn_86 : decode cX4_callIn 86 = .ok (.getfield 170, 3) := by decide +kernel
theorem dX4_callIn_89 : decode cX4_callIn 89 = .ok (.invokevirtual 173, 3) := by decide +kernel
theorem dX4_callIn_92 : decode cX4_callIn 92 = .ok (.ifCond .eq 6, 3) := by decide +kernel
theorem dX4_callIn_95 : decode cX4_callIn 95 = .ok (.bipush (-3), 2) := by decide +kernel
theorem dX4_callIn_97 : decode cX4_callIn 97 = .ok (.ireturn, 1) := by decide +kernel
theorem dX4_callIn_98 : decode cX4_callIn 98 = .ok (.aload_n 0, 1) := by decide +kernel
theorem dX4_callIn_99 : decode cX4_callIn 99 = .ok (.getfield 23, 3) := by decide +kernel
theorem dX4_callIn_102 : decode cX4_callIn 102 = .ok (.iload_n 1, 1) := by decide +kernel
theorem dX4_callIn_103 : decode cX4_callIn 103 = .ok (.aaload, 1) := by decide +kernel
theorem dX4_callIn_104 : decode cX4_callIn 104 = .ok (.iconst 1, 1) := by decide +kernel
theorem dX4_callIn_105 : decode cX4_callIn 105 = .ok (.putfield 166, 3) := by decide +kernel
theorem dX4_callIn_108 : decode cX4_callIn 108 = .ok (.aload_n 0, 1) := by decide +kernel
theorem dX4_callIn_109 : decode cX4_callIn 109 = .ok (.iload_n 2, 1) := by decide +kernel
theorem dX4_callIn_110 : decode cX4_callIn 110 = .ok (.aload_n 0, 1) := by decide +kernel
theorem dX4_callIn_111 : decode cX4_callIn 111 = .ok (.getfield 30, 3) := by decide +kernel
theorem dX4_callIn_114 : decode cX4_callIn 114 = .ok (.getfield 135, 3) := by decide +kernel
theorem dX4_callIn_117 : decode cX4_callIn 117 = .ok (.iconst 2, 1) := by decide +kernel
theorem dX4_callIn_118 : decode cX4_callIn 118 = .ok (.idiv, 1) := by decide +kernel
theorem dX4_callIn_119 : decode cX4_callIn 119 = .ok (.invokevirtual 160, 3) := by decide +kernel
theorem dX4_callIn_122 : decode cX4_callIn 122 = .ok (.ireturn, 1) := by decide +kernel
set_option maxRecDepth 20000 in
theorem ggX4_read_X4_enteredCount : GoodIn wsX4_read wsX4_enteredCount := goodIn_r _ [10, 5, 11, 12, 13, 9, 14, 15, 16, 17, 57, 58, 59, 60, 61, 62, 63, 64, 65, 66, 67, 68, 69, 70, 71, 72, 73, 74, 75, 76, 77, 78, 79, 80, 81, 82, 83, 84, 85, 86] (by decide +kernel) (by decide +kernel)
set_option maxRecDepth 20000 in
theorem gX4_read_X4_enteredCount : GoodIn wsX4_read (wsV RX4 176 RX4 yX4_enteredCount wsX4_enteredCount) := goodIn_app (goodIn_of _ (by decide +kernel)) ggX4_read_X4_enteredCount
set_option maxRecDepth 20000 in
theorem ggX4_read_X4_isEntered : GoodIn wsX4_read wsX4_isEntered := goodIn_r _ [14, 15, 16, 17, 57, 58, 59, 60, 61, 62, 63, 64, 65, 66, 67, 68, 69, 70, 71, 72, 73, 74, 75, 76, 77, 78, 79, 80, 81, 82, 83, 84, 85, 86] (by decide +kernel) (by decide +kernel)
set_option maxRecDepth 20000 in
theorem gX4_read_X4_isEntered : GoodIn wsX4_read (wsV RX4 143 RX4 yX4_isEntered wsX4_isEntered) := goodIn_app (goodIn_of _ (by decide +kernel)) ggX4_read_X4_isEntered
set_option maxRecDepth 20000 in
theorem ggX4_read_X4_handOut : GoodIn wsX4_read wsX4_handOut := goodIn_r _ [21, 15, 22, 23, 24, 25, 26, 27, 9, 28, 4, 29, 30, 31, 32, 33, 34, 35, 36, 37, 38, 39, 40, 41, 42, 43, 44, 45, 46, 47, 48, 49, 50, 51, 52, 53, 54, 55, 56, 57, 58, 59, 60, 61, 62, 63, 64, 65, 66, 67, 68, 69, 70, 71, 72, 73, 74, 75, 76, 77, 78, 79, 80, 81, 82, 83, 84, 85, 86, 87, 88, 89, 90, 91, 92, 93, 94, 95, 96, 97, 98, 99, 100, 101, 102] (by decide +kernel) (by decide +kernel)
set_option maxRecDepth 20000 in
theorem gX4_read_X4_handOut : GoodIn wsX4_read (wsV RX4 182 RX4 yX4_handOut wsX4_handOut) := goodIn_app (goodIn_of _ (by decide +kernel)) ggX4_read_X4_handOut
theorem dX4_read_0 : decode cX4_read 0 = .ok (.aload_n 0, 1) := by decide +kernel
theorem dX4_read_1 : decode cX4_read 1 = .ok (.getfield 37, 3) := by decide +kernel
theorem dX4_read_4 : decode cX4_read 4 = .ok (.ifCond .ne 19, 3) := by decide +kernel
theorem dX4_read_7 : decode cX4_read 7 = .ok (.aload_n 0, 1) := by decide +kernel
theorem dX4_read_8 : decode cX4_read 8 = .ok (.getfield 102, 3) := by decide +kernel
theorem dX4_read_11 : decode cX4_read 11 = .ok (.iconst 3, 1) := by decide +kernel
theorem dX4_read_12 : decode cX4_read 12 = .ok (.if_icmp .lt 11, 3) := by decide +kernel
theorem dX4_read_15 : decode cX4_read 15 = .ok (.aload_n 0, 1) := by decide +kernel
theorem dX4_read_16 : decode cX4_read 16 = .ok (.invokevirtual 176, 3) := by decide +kernel
theorem dX4_read_19 : decode cX4_read 19 = .ok (.iconst 3, 1) := by decide +kernel
theorem dX4_read_20 : decode cX4_read 20 = .ok (.if_icmp .ge 13, 3) := by decide +kernel
theorem dX4_read_23 : decode cX4_read 23 = .ok (.new 57, 3) := by decide +kernel
theorem dX4_read_26 : decode cX4_read 26 = .ok (.dup, 1) := by decide +kernel
theorem dX4_read_27 : decode cX4_read 27 = .ok (.ldc 180, 2) := by decide +kernel
theorem dX4_read_29 : decode cX4_read 29 = .ok (.invokespecial 61, 3) := by decide +kernel
theorem dX4_read_32 : decode cX4_read 32 = .ok (.athrow, 1) := by decide +kernel
theorem dX4_read_33 : decode cX4_read 33 = .ok (.iconst 0, 1) := by decide +kernel
theorem dX4_read_34 : decode cX4_read 34 = .ok (.istore_n 1, 1) := by decide +kernel
theorem dX4_read_35 : decode cX4_read 35 = .ok (.iconst 0, 1) := by decide +kernel
theorem dX4_read_36 : decode cX4_read 36 = .ok (.istore_n 2, 1) := by decide +kernel
theorem dX4_read_37 : decode cX4_read 37 = .ok (.iload_n 2, 1) := by decide +kernel
theorem dX4_read_38 : decode cX4_read 38 = .ok (.aload_n 0, 1) := by decide +kernel
theorem dX4_read_39 : decode cX4_read 39 = .ok (.getfield 85, 3) := by decide +kernel
theorem dX4_read_42 : decode cX4_read 42 = .ok (.if_icmp .ge 25, 3) := by decide +kernel
theorem dX4_read_45 : decode cX4_read 45 = .ok (.aload_n 0, 1) := by decide +kernel
theorem dX4_read_46 : decode cX4_read 46 = .ok (.iload_n 2, 1) := by decide +kernel
theorem dX4_read_47 : decode cX4_read 47 = .ok (.invokevirtual 143, 3) := by decide +kernel
theorem dX4_read_50 : decode cX4_read 50 = .ok (.ifCond .eq 11, 3) := by decide +kernel
theorem dX4_read_53 : decode cX4_read 53 = .ok (.iload_n 1, 1) := by decide +kernel
theorem dX4_read_54 : decode cX4_read 54 = .ok (.aload_n 0, 1) := by decide +kernel
theorem dX4_read_55 : decode cX4_read 55 = .ok (.iload_n 2, 1) := by decide +kernel
theorem dX4_read_56 : decode cX4_read 56 = .ok (.invokevirtual 182, 3) := by decide +kernel
theorem dX4_read_59 : decode cX4_read 59 = .ok (.iadd, 1) := by decide +kernel
theorem dX4_read_60 : decode cX4_read 60 = .ok (.istore_n 1, 1) := by decide +kernel
theorem dX4_read_61 : decode cX4_read 61 = .ok (.iinc 2 1, 3) := by decide +kernel
theorem dX4_read_64 : decode cX4_read 64 = .ok (.goto (-27), 3) := by decide +kernel
theorem dX4_read_67 : decode cX4_read 67 = .ok (.aload_n 0, 1) := by decide +kernel
theorem dX4_read_68 : decode cX4_read 68 = .ok (.iconst 1, 1) := by decide +kernel
theorem dX4_read_69 : decode cX4_read 69 = .ok (.putfield 37, 3) := by decide +kernel
theorem dX4_read_72 : decode cX4_read 72 = .ok (.iload_n 1, 1) := by decide +kernel
theorem dX4_read_73 : decode cX4_read 73 = .ok (.ireturn, 1) := by decide +kernel
set_option maxRecDepth 20000 in
theorem ggX4_print_X4_isBook : GoodIn wsX4_print wsX4_isBook := goodIn_r _ [15, 16, 20, 21, 22, 23, 24, 25, 26, 27, 28, 29, 30, 31, 32, 33, 34, 35, 36, 37, 38] (by decide +kernel) (by decide +kernel)
set_option maxRecDepth 20000 in
theorem gX4_print_X4_isBook : GoodIn wsX4_print (wsV RX4 138 RX4 yX4_isBook wsX4_isBook) := goodIn_app (goodIn_of _ (by decide +kernel)) ggX4_print_X4_isBook
set_option maxRecDepth 20000 in
theorem ggX4_print_X4_isWithin : GoodIn wsX4_print wsX4_isWithin := goodIn_r _ [19] (by decide +kernel) (by decide +kernel)
set_option maxRecDepth 20000 in
theorem gX4_print_X4_isWithin : GoodIn wsX4_print (va_wsS RX4 76 yX4_isWithin wsX4_isWithin) := goodIn_app (goodIn_of _ (by decide +kernel)) ggX4_print_X4_isWithin
theorem dX4_print_0 : decode cX4_print 0 = .ok (.aload_n 0, 1) := by decide +kernel
theorem dX4_print_1 : decode cX4_print 1 = .ok (.iload_n 1, 1) := by decide +kernel
theorem dX4_print_2 : decode cX4_print 2 = .ok (.invokevirtual 138, 3) := by decide +kernel
theorem dX4_print_5 : decode cX4_print 5 = .ok (.ifCond .ne 13, 3) := by decide +kernel
theorem dX4_print_8 : decode cX4_print 8 = .ok (.new 68, 3) := by decide +kernel
theorem dX4_print_11 : decode cX4_print 11 = .ok (.dup, 1) := by decide +kernel
theorem dX4_print_12 : decode cX4_print 12 = .ok (.ldc 141, 2) := by decide +kernel
theorem dX4_print_14 : decode cX4_print 14 = .ok (.invokespecial 72, 3) := by decide +kernel
theorem dX4_print_17 : decode cX4_print 17 = .ok (.athrow, 1) := by decide +kernel
theorem dX4_print_18 : decode cX4_print 18 = .ok (.iload_n 2, 1) := by decide +kernel
theorem dX4_print_19 : decode cX4_print 19 = .ok (.iconst 1, 1) := by decide +kernel
theorem dX4_print_20 : decode cX4_print 20 = .ok (.sipush 5000, 3) := by decide +kernel
theorem dX4_print_23 : decode cX4_print 23 = .ok (.invokestatic 76, 3) := by decide +kernel
theorem dX4_print_26 : decode cX4_print 26 = .ok (.ifCond .ne 13, 3) := by decide +kernel
theorem dX4_print_29 : decode cX4_print 29 = .ok (.new 80, 3) := by decide +kernel
theorem dX4_print_32 : decode cX4_print 32 = .ok (.dup, 1) := by decide +kernel
theorem dX4_print_33 : decode cX4_print 33 = .ok (.ldc 185, 2) := by decide +kernel
theorem dX4_print_35 : decode cX4_print 35 = .ok (.invokespecial 84, 3) := by decide +kernel
theorem dX4_print_38 : decode cX4_print 38 = .ok (.athrow, 1) := by decide +kernel
theorem dX4_print_39 : decode cX4_print 39 = .ok (.aload_n 0, 1) := by decide +kernel
theorem dX4_print_40 : decode cX4_print 40 = .ok (.getfield 17, 3) := by decide +kernel
theorem dX4_print_43 : decode cX4_print 43 = .ok (.iload_n 1, 1) := by decide +kernel
theorem dX4_print_44 : decode cX4_print 44 = .ok (.aaload, 1) := by decide +kernel
theorem dX4_print_45 : decode cX4_print 45 = .ok (.sipush 9999, 3) := by decide +kernel
theorem dX4_print_48 : decode cX4_print 48 = .ok (.aload_n 0, 1) := by decide +kernel
theorem dX4_print_49 : decode cX4_print 49 = .ok (.getfield 17, 3) := by decide +kernel
theorem dX4_print_52 : decode cX4_print 52 = .ok (.iload_n 1, 1) := by decide +kernel
theorem dX4_print_53 : decode cX4_print 53 = .ok (.aaload, 1) := by decide +kernel
theorem dX4_print_54 : decode cX4_print 54 = .ok (.getfield 187, 3) := by decide +kernel
theorem dX4_print_57 : decode cX4_print 57 = .ok (.iload_n 2, 1) := by decide +kernel
theorem dX4_print_58 : decode cX4_print 58 = .ok (.iadd, 1) := by decide +kernel
theorem dX4_print_59 : decode cX4_print 59 = .ok (.invokestatic 190, 3) := by decide +kernel
theorem dX4_print_62 : decode cX4_print 62 = .ok (.putfield 187, 3) := by decide +kernel
theorem dX4_print_65 : decode cX4_print 65 = .ok (.aload_n 0, 1) := by decide +kernel
theorem dX4_print_66 : decode cX4_print 66 = .ok (.getfield 17, 3) := by decide +kernel
theorem dX4_print_69 : decode cX4_print 69 = .ok (.iload_n 1, 1) := by decide +kernel
theorem dX4_print_70 : decode cX4_print 70 = .ok (.aaload, 1) := by decide +kernel
theorem dX4_print_71 : decode cX4_print 71 = .ok (.getfield 187, 3) := by decide +kernel
theorem dX4_print_74 : decode cX4_print 74 = .ok (.ireturn, 1) := by decide +kernel
set_option maxRecDepth 20000 in
theorem ggX4_pass_X4_isWithin : GoodIn wsX4_pass wsX4_isWithin := goodIn_r _ [9] (by decide +kernel) (by decide +kernel)
set_option maxRecDepth 20000 in
theorem gX4_pass_X4_isWithin : GoodIn wsX4_pass (va_wsS RX4 76 yX4_isWithin wsX4_isWithin) := goodIn_app (goodIn_of _ (by decide +kernel)) ggX4_pass_X4_isWithin
set_option maxRecDepth 20000 in
theorem ggX4_pass_X4_readForDay : GoodIn wsX4_pass wsX4_readForDay := goodIn_r _ [13, 14, 15, 16, 17, 18, 19, 20, 21, 22, 23, 24, 25, 26, 27, 28, 29, 30, 31, 32, 33, 34, 35, 36, 37, 38, 39, 40, 41, 42, 43, 44, 45, 46, 47, 48, 49, 50, 51, 52, 53, 54, 55, 56, 57, 86, 87, 88, 89, 90, 91, 92, 93, 94, 95, 96, 97, 98, 99, 100, 101, 102, 103, 104, 105, 106, 107, 108, 109, 110, 111, 112, 113, 114, 115, 116, 117, 118, 119, 120, 121, 122, 123, 124, 125, 126, 127, 128, 129, 130, 131] (by decide +kernel) (by decide +kernel)
set_option maxRecDepth 20000 in
theorem gX4_pass_X4_readForDay : GoodIn wsX4_pass (wsV RX4 202 RX4 yX4_readForDay wsX4_readForDay) := goodIn_app (goodIn_of _ (by decide +kernel)) ggX4_pass_X4_readForDay
set_option maxRecDepth 20000 in
theorem ggX4_pass_X4_sellFor : GoodIn wsX4_pass wsX4_sellFor := goodIn_r _ [61, 62, 17, 63, 64, 65, 66, 67, 68, 8, 69, 70, 71, 72, 73, 74, 75, 76, 77, 78, 79, 80, 81, 82, 83, 25, 26, 27, 84, 85, 86, 87, 88, 89, 90, 91, 92, 93, 94, 95, 96, 97, 98, 99, 100, 101, 102, 103, 104, 121, 122, 123, 124, 125, 126, 127, 128, 129, 130, 131, 132, 133] (by decide +kernel) (by decide +kernel)
set_option maxRecDepth 20000 in
theorem gX4_pass_X4_sellFor : GoodIn wsX4_pass (wsV RX4 205 RX4 yX4_sellFor wsX4_sellFor) := goodIn_app (goodIn_of _ (by decide +kernel)) ggX4_pass_X4_sellFor
theorem dX4_pass_0 : decode cX4_pass 0 = .ok (.iload_n 1, 1) := by decide +kernel
theorem dX4_pass_1 : decode cX4_pass 1 = .ok (.iconst 1, 1) := by decide +kernel
theorem dX4_pass_2 : decode cX4_pass 2 = .ok (.bipush 60, 2) := by decide +kernel
theorem dX4_pass_4 : decode cX4_pass 4 = .ok (.invokestatic 76, 3) := by decide +kernel
theorem dX4_pass_7 : decode cX4_pass 7 = .ok (.ifCond .ne 13, 3) := by decide +kernel
theorem dX4_pass_10 : decode cX4_pass 10 = .ok (.new 80, 3) := by decide +kernel
theorem dX4_pass_13 : decode cX4_pass 13 = .ok (.dup, 1) := by decide +kernel
theorem dX4_pass_14 : decode cX4_pass 14 = .ok (.ldc 195, 2) := by decide +kernel
theorem dX4_pass_16 : decode cX4_pass 16 = .ok (.invokespecial 84, 3) := by decide +kernel
theorem dX4_pass_19 : decode cX4_pass 19 = .ok (.athrow, 1) := by decide +kernel
theorem dX4_pass_20 : decode cX4_pass 20 = .ok (.aload_n 0, 1) := by decide +kernel
theorem dX4_pass_21 : decode cX4_pass 21 = .ok (.getfield 197, 3) := by decide +kernel
theorem dX4_pass_24 : decode cX4_pass 24 = .ok (.iload_n 1, 1) := by decide +kernel
theorem dX4_pass_25 : decode cX4_pass 25 = .ok (.iadd, 1) := by decide +kernel
theorem dX4_pass_26 : decode cX4_pass 26 = .ok (.sipush 9999, 3) := by decide +kernel
theorem dX4_pass_29 : decode cX4_pass 29 = .ok (.if_icmp .le 13, 3) := by decide +kernel
theorem dX4_pass_32 : decode cX4_pass 32 = .ok (.new 57, 3) := by decide +kernel
theorem dX4_pass_35 : decode cX4_pass 35 = .ok (.dup, 1) := by decide +kernel
theorem dX4_pass_36 : decode cX4_pass 36 = .ok (.ldc 200, 2) := by decide +kernel
theorem dX4_pass_38 : decode cX4_pass 38 = .ok (.invokespecial 61, 3) := by decide +kernel
theorem dX4_pass_41 : decode cX4_pass 41 = .ok (.athrow, 1) := by decide +kernel
theorem dX4_pass_42 : decode cX4_pass 42 = .ok (.iconst 0, 1) := by decide +kernel
theorem dX4_pass_43 : decode cX4_pass 43 = .ok (.istore_n 2, 1) := by decide +kernel
theorem dX4_pass_44 : decode cX4_pass 44 = .ok (.iconst 0, 1) := by decide +kernel
theorem dX4_pass_45 : decode cX4_pass 45 = .ok (.istore_n 3, 1) := by decide +kernel
theorem dX4_pass_46 : decode cX4_pass 46 = .ok (.iload_n 3, 1) := by decide +kernel
theorem dX4_pass_47 : decode cX4_pass 47 = .ok (.iload_n 1, 1) := by decide +kernel
theorem dX4_pass_48 : decode cX4_pass 48 = .ok (.if_icmp .ge 16, 3) := by decide +kernel
theorem dX4_pass_51 : decode cX4_pass 51 = .ok (.iload_n 2, 1) := by decide +kernel
theorem dX4_pass_52 : decode cX4_pass 52 = .ok (.aload_n 0, 1) := by decide +kernel
theorem dX4_pass_53 : decode cX4_pass 53 = .ok (.invokevirtual 202, 3) := by decide +kernel
theorem dX4_pass_56 : decode cX4_pass 56 = .ok (.iadd, 1) := by decide +kernel
theorem dX4_pass_57 : decode cX4_pass 57 = .ok (.istore_n 2, 1) := by decide +kernel
theorem dX4_pass_58 : decode cX4_pass 58 = .ok (.iinc 3 1, 3) := by decide +kernel
theorem dX4_pass_61 : decode cX4_pass 61 = .ok (.goto (-15), 3) := by decide +kernel
theorem dX4_pass_64 : decode cX4_pass 64 = .ok (.aload_n 0, 1) := by decide +kernel
theorem dX4_pass_65 : decode cX4_pass 65 = .ok (.iload_n 1, 1) := by decide +kernel
theorem dX4_pass_66 : decode cX4_pass 66 = .ok (.invokevirtual 205, 3) := by decide +kernel
theorem dX4_pass_69 : decode cX4_pass 69 = .ok (.aload_n 0, 1) := by decide +kernel
theorem dX4_pass_70 : decode cX4_pass 70 = .ok (.dup, 1) := by decide +kernel
theorem dX4_pass_71 : decode cX4_pass 71 = .ok (.getfield 197, 3) := by decide +kernel
theorem dX4_pass_74 : decode cX4_pass 74 = .ok (.iload_n 1, 1) := by decide +kernel
theorem dX4_pass_75 : decode cX4_pass 75 = .ok (.iadd, 1) := by decide +kernel
theorem dX4_pass_76 : decode cX4_pass 76 = .ok (.putfield 197, 3) := by decide +kernel
theorem dX4_pass_79 : decode cX4_pass 79 = .ok (.iload_n 2, 1) := by decide +kernel
theorem dX4_pass_80 : decode cX4_pass 80 = .ok (.ireturn, 1) := by decide +kernel
set_option maxRecDepth 20000 in
theorem ggX4_longList_X4_isWithin : GoodIn wsX4_longList wsX4_isWithin := goodIn_r _ [10] (by decide +kernel) (by decide +kernel)
set_option maxRecDepth 20000 in
theorem gX4_longList_X4_isWithin : GoodIn wsX4_longList (va_wsS RX4 76 yX4_isWithin wsX4_isWithin) := goodIn_app (goodIn_of _ (by decide +kernel)) ggX4_longList_X4_isWithin
set_option maxRecDepth 20000 in
theorem ggX4_longList_X4_areCratesRead : GoodIn wsX4_longList wsX4_areCratesRead := goodIn_r _ [14, 15, 16, 17, 18, 19, 20, 21, 22, 23, 115, 116, 117, 118, 119, 120, 121, 122, 123, 124, 125, 126, 127, 128, 129, 130, 131, 132, 133, 134, 135, 136, 137, 138, 139, 140, 141, 142, 143, 144, 145, 146, 147, 148, 149] (by decide +kernel) (by decide +kernel)
set_option maxRecDepth 20000 in
theorem gX4_longList_X4_areCratesRead : GoodIn wsX4_longList (wsV RX4 211 RX4 yX4_areCratesRead wsX4_areCratesRead) := goodIn_app (goodIn_of _ (by decide +kernel)) ggX4_longList_X4_areCratesRead
set_option maxRecDepth 20000 in
theorem ggX4_longList_X4_fillLongList : GoodIn wsX4_longList wsX4_fillLongList := goodIn_r _ [27, 6, 28, 29, 30, 31, 32, 9, 33, 34, 35, 36, 37, 38, 39, 40, 41, 42, 43, 44, 45, 46, 47, 48, 49, 15, 50, 51, 52, 53, 16, 54, 55, 56, 57, 20, 58, 59, 60, 61, 62, 63, 64, 65, 66, 67, 68, 69, 70, 71, 72, 73, 74, 75, 76, 77, 78, 79, 80, 81, 82, 83, 84, 85, 86, 87, 88, 89, 90, 91, 92, 93, 94, 95, 96, 97, 98, 99, 100, 101, 102, 103, 104, 105, 106, 107, 108, 109, 110, 111, 112, 113, 114, 115, 116, 117, 118, 119, 120, 121, 122, 123, 124, 125, 126, 127, 128, 129, 130, 131, 132, 133, 150, 151, 152, 153, 154, 155, 156, 157, 158, 159, 160, 134, 135, 136, 137, 138, 139, 140, 141, 142, 143, 144, 145, 146, 147, 148, 149] (by decide +kernel) (by decide +kernel)
set_option maxRecDepth 20000 in
theorem gX4_longList_X4_fillLongList : GoodIn wsX4_longList (wsV RX4 217 RX4 yX4_fillLongList wsX4_fillLongList) := goodIn_app (goodIn_of _ (by decide +kernel)) ggX4_longList_X4_fillLongList
set_option maxRecDepth 20000 in
theorem ggX4_longList_J6_bitCount_0f7a4 : GoodIn wsX4_longList wsJ6_bitCount_0f7a4 := goodIn_r _ [70, 71, 72, 73] (by decide +kernel) (by decide +kernel)
set_option maxRecDepth 20000 in
theorem gX4_longList_J6_bitCount_0f7a4 : GoodIn wsX4_longList (va_wsS RX4 124 yJ6_bitCount_0f7a4 wsJ6_bitCount_0f7a4) := goodIn_app (goodIn_of _ (by decide +kernel)) ggX4_longList_J6_bitCount_0f7a4
theorem dX4_longList_0 : decode cX4_longList 0 = .ok (.iload_n 1, 1) := by decide +kernel
theorem dX4_longList_1 : decode cX4_longList 1 = .ok (.iconst 3, 1) := by decide +kernel
theorem dX4_longList_2 : decode cX4_longList 2 = .ok (.bipush 8, 2) := by decide +kernel
theorem dX4_longList_4 : decode cX4_longList 4 = .ok (.invokestatic 76, 3) := by decide +kernel
theorem dX4_longList_7 : decode cX4_longList 7 = .ok (.ifCond .ne 13, 3) := by decide +kernel
theorem dX4_longList_10 : decode cX4_longList 10 = .ok (.new 80, 3) := by decide +kernel
theorem dX4_longList_13 : decode cX4_longList 13 = .ok (.dup, 1) := by decide +kernel
theorem dX4_longList_14 : decode cX4_longList 14 = .ok (.ldc 209, 2) := by decide +kernel
theorem dX4_longList_16 : decode cX4_longList 16 = .ok (.invokespecial 84, 3) := by decide +kernel
theorem dX4_longList_19 : decode cX4_longList 19 = .ok (.athrow, 1) := by decide +kernel
theorem dX4_longList_20 : decode cX4_longList 20 = .ok (.aload_n 0, 1) := by decide +kernel
theorem dX4_longList_21 : decode cX4_longList 21 = .ok (.getfield 37, 3) := by decide +kernel
theorem dX4_longList_24 : decode cX4_longList 24 = .ok (.iconst 1, 1) := by decide +kernel
theorem dX4_longList_25 : decode cX4_longList 25 = .ok (.if_icmp .ne 10, 3) := by decide +kernel
theorem dX4_longList_28 : decode cX4_longList 28 = .ok (.aload_n 0, 1) := by decide +kernel
theorem dX4_longList_29 : decode cX4_longList 29 = .ok (.invokevirtual 211, 3) := by decide +kernel
theorem dX4_longList_32 : decode cX4_longList 32 = .ok (.ifCond .ne 13, 3) := by decide +kernel
theorem dX4_longList_35 : decode cX4_longList 35 = .ok (.new 57, 3) := by decide +kernel
theorem dX4_longList_38 : decode cX4_longList 38 = .ok (.dup, 1) := by decide +kernel
theorem dX4_longList_39 : decode cX4_longList 39 = .ok (.ldc 215, 2) := by decide +kernel
theorem dX4_longList_41 : decode cX4_longList 41 = .ok (.invokespecial 61, 3) := by decide +kernel
theorem dX4_longList_44 : decode cX4_longList 44 = .ok (.athrow, 1) := by decide +kernel
theorem dX4_longList_45 : decode cX4_longList 45 = .ok (.aload_n 0, 1) := by decide +kernel
theorem dX4_longList_46 : decode cX4_longList 46 = .ok (.iload_n 1, 1) := by decide +kernel
theorem dX4_longList_47 : decode cX4_longList 47 = .ok (.invokevirtual 217, 3) := by decide +kernel
theorem dX4_longList_50 : decode cX4_longList 50 = .ok (.aload_n 0, 1) := by decide +kernel
theorem dX4_longList_51 : decode cX4_longList 51 = .ok (.iconst 2, 1) := by decide +kernel
theorem dX4_longList_52 : decode cX4_longList 52 = .ok (.putfield 37, 3) := by decide +kernel
theorem dX4_longList_55 : decode cX4_longList 55 = .ok (.aload_n 0, 1) := by decide +kernel
theorem dX4_longList_56 : decode cX4_longList 56 = .ok (.getfield 220, 3) := by decide +kernel
theorem dX4_longList_59 : decode cX4_longList 59 = .ok (.invokestatic 124, 3) := by decide +kernel
theorem dX4_longList_62 : decode cX4_longList 62 = .ok (.ireturn, 1) := by decide +kernel
set_option maxRecDepth 20000 in
theorem ggX4_points_X4_isJudge : GoodIn wsX4_points wsX4_isJudge := goodIn_r _ [17, 18, 41, 42, 43, 44, 45, 46, 47, 48, 49, 50, 51, 52, 53, 54, 55, 56, 57, 58, 59] (by decide +kernel) (by decide +kernel)
set_option maxRecDepth 20000 in
theorem gX4_points_X4_isJudge : GoodIn wsX4_points (wsV RX4 110 RX4 yX4_isJudge wsX4_isJudge) := goodIn_app (goodIn_of _ (by decide +kernel)) ggX4_points_X4_isJudge
set_option maxRecDepth 20000 in
theorem ggX4_points_X4_isBook : GoodIn wsX4_points wsX4_isBook := goodIn_r _ [22, 23, 41, 42, 43, 44, 45, 46, 47, 48, 49, 50, 51, 52, 53, 54, 55, 56, 57, 58, 59] (by decide +kernel) (by decide +kernel)
set_option maxRecDepth 20000 in
theorem gX4_points_X4_isBook : GoodIn wsX4_points (wsV RX4 138 RX4 yX4_isBook wsX4_isBook) := goodIn_app (goodIn_of _ (by decide +kernel)) ggX4_points_X4_isBook
set_option maxRecDepth 20000 in
theorem ggX4_points_X4_has : GoodIn wsX4_points wsX4_has := goodIn_r _ [26] (by decide +kernel) (by decide +kernel)
set_option maxRecDepth 20000 in
theorem gX4_points_X4_has : GoodIn wsX4_points (va_wsS RX4 223 yX4_has wsX4_has) := goodIn_app (goodIn_of _ (by decide +kernel)) ggX4_points_X4_has
set_option maxRecDepth 20000 in
theorem ggX4_points_X4_isWithin : GoodIn wsX4_points wsX4_isWithin := goodIn_r _ [29] (by decide +kernel) (by decide +kernel)
set_option maxRecDepth 20000 in
theorem gX4_points_X4_isWithin : GoodIn wsX4_points (va_wsS RX4 76 yX4_isWithin wsX4_isWithin) := goodIn_app (goodIn_of _ (by decide +kernel)) ggX4_points_X4_isWithin
set_option maxRecDepth 20000 in
theorem ggX4_points_X2_pointsLeft : GoodIn wsX4_points wsX2_pointsLeft := goodIn_r _ [34, 35, 60, 61, 62, 63, 64, 65, 66, 67, 68, 69, 70, 71, 72, 73, 74, 75] (by decide +kernel) (by decide +kernel)
set_option maxRecDepth 20000 in
theorem gX4_points_X2_pointsLeft : GoodIn wsX4_points (wsV RX4 231 RX2 yX2_pointsLeft wsX2_pointsLeft) := goodIn_app (goodIn_of _ (by decide +kernel)) ggX4_points_X2_pointsLeft
set_option maxRecDepth 20000 in
theorem ggX4_points_X2_isAgainst : GoodIn wsX4_points wsX2_isAgainst := goodIn_r _ [39, 40, 60, 61, 62, 63, 64, 65, 66, 67, 68, 69, 70, 71, 72, 73, 74, 75] (by decide +kernel) (by decide +kernel)
set_option maxRecDepth 20000 in
theorem gX4_points_X2_isAgainst : GoodIn wsX4_points (wsV RX4 173 RX2 yX2_isAgainst wsX2_isAgainst) := goodIn_app (goodIn_of _ (by decide +kernel)) ggX4_points_X2_isAgainst
theorem dX4_points_0 : decode cX4_points 0 = .ok (.aload_n 0, 1) := by decide +kernel
theorem dX4_points_1 : decode cX4_points 1 = .ok (.iload_n 1, 1) := by decide +kernel
theorem dX4_points_2 : decode cX4_points 2 = .ok (.invokevirtual 110, 3) := by decide +kernel
theorem dX4_points_5 : decode cX4_points 5 = .ok (.ifCond .eq 30, 3) := by decide +kernel
theorem dX4_points_8 : decode cX4_points 8 = .ok (.aload_n 0, 1) := by decide +kernel
theorem dX4_points_9 : decode cX4_points 9 = .ok (.iload_n 2, 1) := by decide +kernel
theorem dX4_points_10 : decode cX4_points 10 = .ok (.invokevirtual 138, 3) := by decide +kernel
theorem dX4_points_13 : decode cX4_points 13 = .ok (.ifCond .eq 22, 3) := by decide +kernel
theorem dX4_points_16 : decode cX4_points 16 = .ok (.aload_n 0, 1) := by decide +kernel
theorem dX4_points_17 : decode cX4_points 17 = .ok (.getfield 37, 3) := by decide +kernel
theorem dX4_points_20 : decode cX4_points 20 = .ok (.iconst 2, 1) := by decide +kernel
theorem dX4_points_21 : decode cX4_points 21 = .ok (.if_icmp .ne 14, 3) := by decide +kernel
theorem dX4_points_24 : decode cX4_points 24 = .ok (.aload_n 0, 1) := by decide +kernel
theorem dX4_points_25 : decode cX4_points 25 = .ok (.getfield 220, 3) := by decide +kernel
theorem dX4_points_28 : decode cX4_points 28 = .ok (.iload_n 2, 1) := by decide +kernel
theorem dX4_points_29 : decode cX4_points 29 = .ok (.invokestatic 223, 3) := by decide +kernel
theorem dX4_points_32 : decode cX4_points 32 = .ok (.ifCond .ne 13, 3) := by decide +kernel
theorem dX4_points_35 : decode cX4_points 35 = .ok (.new 68, 3) := by decide +kernel
theorem dX4_points_38 : decode cX4_points 38 = .ok (.dup, 1) := by decide +kernel
theorem dX4_points_39 : decode cX4_points 39 = .ok (.ldc 227, 2) := by decide +kernel
theorem dX4_points_41 : decode cX4_points 41 = .ok (.invokespecial 72, 3) := by decide +kernel
theorem dX4_points_44 : decode cX4_points 44 = .ok (.athrow, 1) := by decide +kernel
theorem dX4_points_45 : decode cX4_points 45 = .ok (.iload_n 3, 1) := by decide +kernel
theorem dX4_points_46 : decode cX4_points 46 = .ok (.iconst 0, 1) := by decide +kernel
theorem dX4_points_47 : decode cX4_points 47 = .ok (.bipush 12, 2) := by decide +kernel
theorem dX4_points_49 : decode cX4_points 49 = .ok (.invokestatic 76, 3) := by decide +kernel
theorem dX4_points_52 : decode cX4_points 52 = .ok (.ifCond .ne 13, 3) := by decide +kernel
theorem dX4_points_55 : decode cX4_points 55 = .ok (.new 80, 3) := by decide +kernel
theorem dX4_points_58 : decode cX4_points 58 = .ok (.dup, 1) := by decide +kernel
theorem dX4_points_59 : decode cX4_points 59 = .ok (.ldc 229, 2) := by decide +kernel
theorem dX4_points_61 : decode cX4_points 61 = .ok (.invokespecial 84, 3) := by decide +kernel
theorem dX4_points_64 : decode cX4_points 64 = .ok (.athrow, 1) := by decide +kernel
theorem dX4_points_65 : decode cX4_points 65 = .ok (.aload_n 0, 1) := by decide +kernel
theorem dX4_points_66 : decode cX4_points 66 = .ok (.getfield 23, 3) := by decide +kernel
theorem dX4_points_69 : decode cX4_points 69 = .ok (.iload_n 1, 1) := by decide +kernel
theorem dX4_points_70 : decode cX4_points 70 = .ok (.aaload, 1) := by decide +kernel
theorem dX4_points_71 : decode cX4_points 71 = .ok (.invokevirtual 231, 3) := by decide +kernel
theorem dX4_points_74 : decode cX4_points 74 = .ok (.aload_n 0, 1) := by decide +kernel
theorem dX4_points_75 : decode cX4_points 75 = .ok (.getfield 23, 3) := by decide +kernel
theorem dX4_points_78 : decode cX4_points 78 = .ok (.iload_n 1, 1) := by decide +kernel
theorem dX4_points_79 : decode cX4_points 79 = .ok (.aaload, 1) := by decide +kernel
theorem dX4_points_80 : decode cX4_points 80 = .ok (.getfield 234, 3) := by decide +kernel
theorem dX4_points_83 : decode cX4_points 83 = .ok (.iload_n 2, 1) := by decide +kernel
theorem dX4_points_84 : decode cX4_points 84 = .ok (.iaload, 1) := by decide +kernel
theorem dX4_points_85 : decode cX4_points 85 = .ok (.iadd, 1) := by decide +kernel
theorem dX4_points_86 : decode cX4_points 86 = .ok (.iload_n 3, 1) := by decide +kernel
theorem dX4_points_87 : decode cX4_points 87 = .ok (.isub, 1) := by decide +kernel
theorem dX4_points_88 : decode cX4_points 88 = .ok (.istore 4, 2) := by decide +kernel
theorem dX4_points_90 : decode cX4_points 90 = .ok (.aload_n 0, 1) := by decide +kernel
theorem dX4_points_91 : decode cX4_points 91 = .ok (.getfield 23, 3) := by decide +kernel
theorem dX4_points_94 : decode cX4_points 94 = .ok (.iload_n 1, 1) := by decide +kernel
theorem dX4_points_95 : decode cX4_points 95 = .ok (.aaload, 1) := by decide +kernel
theorem dX4_points_96 : decode cX4_points 96 = .ok (.aload_n 0, 1) := by decide +kernel
theorem dX4_points_97 : decode cX4_points 97 = .ok (.getfield 17, 3) := by decide +kernel
theorem dX4_points_100 : decode cX4_points 100 = .ok (.iload_n 2, 1) := by decide +kernel
theorem dX4_points_101 : decode cX4_points 101 = .ok (.aaload, 1) := by decide +kernel
theorem dX4_points_102 : decode cX4_points 102 = .ok (.getfield 170, 3) := by decide +kernel
theorem dX4_points_105 : decode cX4_points 105 = .ok (.invokevirtual 173, 3) := by decide +kernel
theorem dX4_points_108 : decode cX4_points 108 = .ok (.ifCond .ne 8, 3) := by decide +kernel
theorem dX4_points_111 : decode cX4_points 111 = .ok (.iload 4, 2) := by decide +kernel
theorem dX4_points_113 : decode cX4_points 113 = .ok (.ifCond .ge 13, 3) := by decide +kernel
theorem dX4_points_116 : decode cX4_points 116 = .ok (.new 57, 3) := by decide +kernel
theorem dX4_points_119 : decode cX4_points 119 = .ok (.dup, 1) := by decide +kernel
theorem dX4_points_120 : decode cX4_points 120 = .ok (.ldc 237, 2) := by decide +kernel
theorem dX4_points_122 : decode cX4_points 122 = .ok (.invokespecial 61, 3) := by decide +kernel
theorem dX4_points_125 : decode cX4_points 125 = .ok (.athrow, 1) := by decide +kernel
theorem dX4_points_126 : decode cX4_points 126 = .ok (.aload_n 0, 1) := by decide +kernel
theorem dX4_points_127 : decode cX4_points 127 = .ok (.getfield 23, 3) := by decide +kernel
theorem dX4_points_130 : decode cX4_points 130 = .ok (.iload_n 1, 1) := by decide +kernel
theorem dX4_points_131 : decode cX4_points 131 = .ok (.aaload, 1) := by decide +kernel
theorem dX4_points_132 : decode cX4_points 132 = .ok (.getfield 234, 3) := by decide +kernel
theorem dX4_points_135 : decode cX4_points 135 = .ok (.iload_n 2, 1) := by decide +kernel
theorem dX4_points_136 : decode cX4_points 136 = .ok (.iload_n 3, 1) := by decide +kernel
theorem dX4_points_137 : decode cX4_points 137 = .ok (.iastore, 1) := by decide +kernel
theorem dX4_points_138 : decode cX4_points 138 = .ok (.iload 4, 2) := by decide +kernel
theorem dX4_points_140 : decode cX4_points 140 = .ok (.ireturn, 1) := by decide +kernel
set_option maxRecDepth 20000 in
theorem ggX4_shortList_X4_isWithin : GoodIn wsX4_shortList wsX4_isWithin := goodIn_r _ [10] (by decide +kernel) (by decide +kernel)
set_option maxRecDepth 20000 in
theorem gX4_shortList_X4_isWithin : GoodIn wsX4_shortList (va_wsS RX4 76 yX4_isWithin wsX4_isWithin) := goodIn_app (goodIn_of _ (by decide +kernel)) ggX4_shortList_X4_isWithin
set_option maxRecDepth 20000 in
theorem ggX4_shortList_X4_fillShortList : GoodIn wsX4_shortList wsX4_fillShortList := goodIn_r _ [14, 15, 6, 16, 17, 18, 9, 19, 20, 21, 22, 23, 24, 25, 26, 27, 28, 29, 30, 31, 32, 33, 34, 35, 36, 37, 38, 39, 40, 41, 42, 43, 44, 45, 46, 47, 48, 49, 50, 51, 52, 53, 54, 55, 56, 57, 58, 59, 60, 61, 62, 63, 64, 65, 66, 67, 68, 69, 70, 71, 72, 79, 80, 81, 82, 83, 84, 85, 86, 87, 88, 89, 90, 91, 92, 93, 94, 95, 96, 97, 98, 99, 100, 101, 102, 103, 104, 105, 106, 107, 108, 109, 110, 111, 112, 113, 114, 115, 116, 117, 118, 119, 120, 121, 122, 123, 124] (by decide +kernel) (by decide +kernel)
set_option maxRecDepth 20000 in
theorem gX4_shortList_X4_fillShortList : GoodIn wsX4_shortList (wsV RX4 243 RX4 yX4_fillShortList wsX4_fillShortList) := goodIn_app (goodIn_of _ (by decide +kernel)) ggX4_shortList_X4_fillShortList
set_option maxRecDepth 20000 in
theorem ggX4_shortList_J6_bitCount_0f7a4 : GoodIn wsX4_shortList wsJ6_bitCount_0f7a4 := goodIn_r _ [75, 76, 77, 78] (by decide +kernel) (by decide +kernel)
set_option maxRecDepth 20000 in
theorem gX4_shortList_J6_bitCount_0f7a4 : GoodIn wsX4_shortList (va_wsS RX4 124 yJ6_bitCount_0f7a4 wsJ6_bitCount_0f7a4) := goodIn_app (goodIn_of _ (by decide +kernel)) ggX4_shortList_J6_bitCount_0f7a4
theorem dX4_shortList_0 : decode cX4_shortList 0 = .ok (.iload_n 1, 1) := by decide +kernel
theorem dX4_shortList_1 : decode cX4_shortList 1 = .ok (.iconst 2, 1) := by decide +kernel
theorem dX4_shortList_2 : decode cX4_shortList 2 = .ok (.iconst 5, 1) := by decide +kernel
theorem dX4_shortList_3 : decode cX4_shortList 3 = .ok (.invokestatic 76, 3) := by decide +kernel
theorem dX4_shortList_6 : decode cX4_shortList 6 = .ok (.ifCond .ne 13, 3) := by decide +kernel
theorem dX4_shortList_9 : decode cX4_shortList 9 = .ok (.new 80, 3) := by decide +kernel
theorem dX4_shortList_12 : decode cX4_shortList 12 = .ok (.dup, 1) := by decide +kernel
theorem dX4_shortList_13 : decode cX4_shortList 13 = .ok (.ldc 239, 2) := by decide +kernel
theorem dX4_shortList_15 : decode cX4_shortList 15 = .ok (.invokespecial 84, 3) := by decide +kernel
theorem dX4_shortList_18 : decode cX4_shortList 18 = .ok (.athrow, 1) := by decide +kernel
theorem dX4_shortList_19 : decode cX4_shortList 19 = .ok (.aload_n 0, 1) := by decide +kernel
theorem dX4_shortList_20 : decode cX4_shortList 20 = .ok (.getfield 37, 3) := by decide +kernel
theorem dX4_shortList_23 : decode cX4_shortList 23 = .ok (.iconst 2, 1) := by decide +kernel
theorem dX4_shortList_24 : decode cX4_shortList 24 = .ok (.if_icmp .eq 13, 3) := by decide +kernel
theorem dX4_shortList_27 : decode cX4_shortList 27 = .ok (.new 57, 3) := by decide +kernel
theorem dX4_shortList_30 : decode cX4_shortList 30 = .ok (.dup, 1) := by decide +kernel
theorem dX4_shortList_31 : decode cX4_shortList 31 = .ok (.ldc 241, 2) := by decide +kernel
theorem dX4_shortList_33 : decode cX4_shortList 33 = .ok (.invokespecial 61, 3) := by decide +kernel
theorem dX4_shortList_36 : decode cX4_shortList 36 = .ok (.athrow, 1) := by decide +kernel
theorem dX4_shortList_37 : decode cX4_shortList 37 = .ok (.aload_n 0, 1) := by decide +kernel
theorem dX4_shortList_38 : decode cX4_shortList 38 = .ok (.iload_n 1, 1) := by decide +kernel
theorem dX4_shortList_39 : decode cX4_shortList 39 = .ok (.invokevirtual 243, 3) := by decide +kernel
theorem dX4_shortList_42 : decode cX4_shortList 42 = .ok (.aload_n 0, 1) := by decide +kernel
theorem dX4_shortList_43 : decode cX4_shortList 43 = .ok (.iconst 3, 1) := by decide +kernel
theorem dX4_shortList_44 : decode cX4_shortList 44 = .ok (.putfield 37, 3) := by decide +kernel
theorem dX4_shortList_47 : decode cX4_shortList 47 = .ok (.aload_n 0, 1) := by decide +kernel
theorem dX4_shortList_48 : decode cX4_shortList 48 = .ok (.getfield 246, 3) := by decide +kernel
theorem dX4_shortList_51 : decode cX4_shortList 51 = .ok (.invokestatic 124, 3) := by decide +kernel
theorem dX4_shortList_54 : decode cX4_shortList 54 = .ok (.ireturn, 1) := by decide +kernel
set_option maxRecDepth 20000 in
theorem ggX4_vote_X4_isJudge : GoodIn wsX4_vote wsX4_isJudge := goodIn_r _ [13, 14, 61, 62, 63, 64, 65, 66, 67, 68, 69, 70, 71, 72, 73, 74, 75, 76, 77, 78, 79] (by decide +kernel) (by decide +kernel)
set_option maxRecDepth 20000 in
theorem gX4_vote_X4_isJudge : GoodIn wsX4_vote (wsV RX4 110 RX4 yX4_isJudge wsX4_isJudge) := goodIn_app (goodIn_of _ (by decide +kernel)) ggX4_vote_X4_isJudge
set_option maxRecDepth 20000 in
theorem ggX4_vote_X4_isOrder : GoodIn wsX4_vote wsX4_isOrder := goodIn_r _ [18, 19, 20, 21, 22, 23, 24, 25, 26, 27, 28, 12, 29, 30, 31, 32, 33, 34, 35, 61, 62, 63, 64, 65, 66, 67, 68, 69, 70, 71, 72, 73, 74, 75, 76, 77, 78, 79] (by decide +kernel) (by decide +kernel)
set_option maxRecDepth 20000 in
theorem gX4_vote_X4_isOrder : GoodIn wsX4_vote (wsV RX4 249 RX4 yX4_isOrder wsX4_isOrder) := goodIn_app (goodIn_of _ (by decide +kernel)) ggX4_vote_X4_isOrder
set_option maxRecDepth 20000 in
theorem ggX4_vote_X4_takeOrder : GoodIn wsX4_vote wsX4_takeOrder := goodIn_r _ [39, 19, 40, 41, 42, 43, 44, 45, 20, 21, 22, 23, 24, 25, 26, 46, 47, 48, 12, 49, 50, 30, 31, 32, 61, 62, 63, 64, 65, 66, 67, 68, 69, 70, 71, 72, 73, 74, 75, 76, 77, 78, 79, 80, 81, 82, 83, 84, 85, 86, 87, 88, 89, 90, 91, 92, 93, 94, 95] (by decide +kernel) (by decide +kernel)
set_option maxRecDepth 20000 in
theorem gX4_vote_X4_takeOrder : GoodIn wsX4_vote (wsV RX4 256 RX4 yX4_takeOrder wsX4_takeOrder) := goodIn_app (goodIn_of _ (by decide +kernel)) ggX4_vote_X4_takeOrder
set_option maxRecDepth 20000 in
theorem ggX4_vote_X4_orderCount : GoodIn wsX4_vote wsX4_orderCount := goodIn_r _ [54, 14, 8, 55, 56, 57, 58, 59, 60, 61, 62, 63, 64, 65, 66, 67, 68, 69, 70, 71, 72, 73, 74, 75, 76, 77, 78, 79, 80, 81, 82, 83, 84, 85, 86, 87, 88, 89, 90, 91, 92, 93, 94, 95] (by decide +kernel) (by decide +kernel)
set_option maxRecDepth 20000 in
theorem gX4_vote_X4_orderCount : GoodIn wsX4_vote (wsV RX4 260 RX4 yX4_orderCount wsX4_orderCount) := goodIn_app (goodIn_of _ (by decide +kernel)) ggX4_vote_X4_orderCount
theorem dX4_vote_0 : decode cX4_vote 0 = .ok (.aload_n 0, 1) := by decide +kernel
theorem dX4_vote_1 : decode cX4_vote 1 = .ok (.iload_n 1, 1) := by decide +kernel
theorem dX4_vote_2 : decode cX4_vote 2 = .ok (.invokevirtual 110, 3) := by decide +kernel
theorem dX4_vote_5 : decode cX4_vote 5 = .ok (.ifCond .ne 13, 3) := by decide +kernel
theorem dX4_vote_8 : decode cX4_vote 8 = .ok (.new 68, 3) := by decide +kernel
theorem dX4_vote_11 : decode cX4_vote 11 = .ok (.dup, 1) := by decide +kernel
theorem dX4_vote_12 : decode cX4_vote 12 = .ok (.ldc 113, 2) := by decide +kernel
theorem dX4_vote_14 : decode cX4_vote 14 = .ok (.invokespecial 72, 3) := by decide +kernel
theorem dX4_vote_17 : decode cX4_vote 17 = .ok (.athrow, 1) := by decide +kernel
theorem dX4_vote_18 : decode cX4_vote 18 = .ok (.aload_n 0, 1) := by decide +kernel
theorem dX4_vote_19 : decode cX4_vote 19 = .ok (.iload_n 2, 1) := by decide +kernel
theorem dX4_vote_20 : decode cX4_vote 20 = .ok (.invokevirtual 249, 3) := by decide +kernel
theorem dX4_vote_23 : decode cX4_vote 23 = .ok (.ifCond .ne 13, 3) := by decide +kernel
theorem dX4_vote_26 : decode cX4_vote 26 = .ok (.new 80, 3) := by decide +kernel
theorem dX4_vote_29 : decode cX4_vote 29 = .ok (.dup, 1) := by decide +kernel
theorem dX4_vote_30 : decode cX4_vote 30 = .ok (.ldc 252, 2) := by decide +kernel
theorem dX4_vote_32 : decode cX4_vote 32 = .ok (.invokespecial 84, 3) := by decide +kernel
theorem dX4_vote_35 : decode cX4_vote 35 = .ok (.athrow, 1) := by decide +kernel
theorem dX4_vote_36 : decode cX4_vote 36 = .ok (.aload_n 0, 1) := by decide +kernel
theorem dX4_vote_37 : decode cX4_vote 37 = .ok (.getfield 37, 3) := by decide +kernel
theorem dX4_vote_40 : decode cX4_vote 40 = .ok (.iconst 3, 1) := by decide +kernel
theorem dX4_vote_41 : decode cX4_vote 41 = .ok (.if_icmp .eq 13, 3) := by decide +kernel
theorem dX4_vote_44 : decode cX4_vote 44 = .ok (.new 57, 3) := by decide +kernel
theorem dX4_vote_47 : decode cX4_vote 47 = .ok (.dup, 1) := by decide +kernel
theorem dX4_vote_48 : decode cX4_vote 48 = .ok (.ldc 254, 2) := by decide +kernel
theorem dX4_vote_50 : decode cX4_vote 50 = .ok (.invokespecial 61, 3) := by decide +kernel
theorem dX4_vote_53 : decode cX4_vote 53 = .ok (.athrow, 1) := by decide +kernel
theorem dX4_vote_54 : decode cX4_vote 54 = .ok (.aload_n 0, 1) := by decide +kernel
theorem dX4_vote_55 : decode cX4_vote 55 = .ok (.aload_n 0, 1) := by decide +kernel
theorem dX4_vote_56 : decode cX4_vote 56 = .ok (.getfield 23, 3) := by decide +kernel
theorem dX4_vote_59 : decode cX4_vote 59 = .ok (.iload_n 1, 1) := by decide +kernel
theorem dX4_vote_60 : decode cX4_vote 60 = .ok (.aaload, 1) := by decide +kernel
theorem dX4_vote_61 : decode cX4_vote 61 = .ok (.iload_n 2, 1) := by decide +kernel
theorem dX4_vote_62 : decode cX4_vote 62 = .ok (.invokevirtual 256, 3) := by decide +kernel
theorem dX4_vote_65 : decode cX4_vote 65 = .ok (.aload_n 0, 1) := by decide +kernel
theorem dX4_vote_66 : decode cX4_vote 66 = .ok (.invokevirtual 260, 3) := by decide +kernel
theorem dX4_vote_69 : decode cX4_vote 69 = .ok (.ireturn, 1) := by decide +kernel
set_option maxRecDepth 20000 in
theorem ggX4_end_X4_winnerWithout : GoodIn wsX4_end wsX4_winnerWithout := goodIn_r _ [9, 10, 11, 12, 13, 14, 8, 15, 16, 17, 18, 19, 20, 21, 22, 23, 24, 25, 26, 27, 28, 29, 30, 31, 32, 33, 34, 35, 36, 37, 38, 39, 40, 41, 42, 43, 44, 45, 46, 47, 48, 49, 50, 51, 52, 53, 54, 55, 56, 57, 58, 59, 60, 61, 62, 63, 64, 65, 66, 67, 68, 69, 70, 76, 77, 78, 79, 80, 81, 82, 83, 84, 85, 86, 87, 88, 89, 90, 91, 92, 93, 94, 95, 96, 97, 98, 99, 100, 101, 102, 103, 104, 105, 106, 107, 108, 109, 110, 111, 112, 113, 114, 115, 116, 117, 118, 119, 120, 121] (by decide +kernel) (by decide +kernel)
set_option maxRecDepth 20000 in
theorem gX4_end_X4_winnerWithout : GoodIn wsX4_end (wsV RX4 265 RX4 yX4_winnerWithout wsX4_winnerWithout) := goodIn_app (goodIn_of _ (by decide +kernel)) ggX4_end_X4_winnerWithout
set_option maxRecDepth 20000 in
theorem ggX4_end_X4_crown : GoodIn wsX4_end wsX4_crown := goodIn_r _ [74, 4, 75, 35, 36, 8, 37, 76, 77, 78, 79, 80, 81, 82, 83, 84, 85, 86, 87, 88, 89, 90, 91, 92, 93, 94] (by decide +kernel) (by decide +kernel)
set_option maxRecDepth 20000 in
theorem gX4_end_X4_crown : GoodIn wsX4_end (wsV RX4 268 RX4 yX4_crown wsX4_crown) := goodIn_app (goodIn_of _ (by decide +kernel)) ggX4_end_X4_crown
theorem dX4_end_0 : decode cX4_end 0 = .ok (.aload_n 0, 1) := by decide +kernel
theorem dX4_end_1 : decode cX4_end 1 = .ok (.getfield 37, 3) := by decide +kernel
theorem dX4_end_4 : decode cX4_end 4 = .ok (.iconst 3, 1) := by decide +kernel
theorem dX4_end_5 : decode cX4_end 5 = .ok (.if_icmp .eq 14, 3) := by decide +kernel
theorem dX4_end_8 : decode cX4_end 8 = .ok (.new 57, 3) := by decide +kernel
theorem dX4_end_11 : decode cX4_end 11 = .ok (.dup, 1) := by decide +kernel
theorem dX4_end_12 : decode cX4_end 12 = .ok (.ldc_w 263, 3) := by decide +kernel
theorem dX4_end_15 : decode cX4_end 15 = .ok (.invokespecial 61, 3) := by decide +kernel
theorem dX4_end_18 : decode cX4_end 18 = .ok (.athrow, 1) := by decide +kernel
theorem dX4_end_19 : decode cX4_end 19 = .ok (.aload_n 0, 1) := by decide +kernel
theorem dX4_end_20 : decode cX4_end 20 = .ok (.aload_n 0, 1) := by decide +kernel
theorem dX4_end_21 : decode cX4_end 21 = .ok (.iconst 0, 1) := by decide +kernel
theorem dX4_end_22 : decode cX4_end 22 = .ok (.iconst 0, 1) := by decide +kernel
theorem dX4_end_23 : decode cX4_end 23 = .ok (.invokevirtual 265, 3) := by decide +kernel
theorem dX4_end_26 : decode cX4_end 26 = .ok (.invokevirtual 268, 3) := by decide +kernel
theorem dX4_end_29 : decode cX4_end 29 = .ok (.aload_n 0, 1) := by decide +kernel
theorem dX4_end_30 : decode cX4_end 30 = .ok (.iconst 4, 1) := by decide +kernel
theorem dX4_end_31 : decode cX4_end 31 = .ok (.putfield 37, 3) := by decide +kernel
theorem dX4_end_34 : decode cX4_end 34 = .ok (.aload_n 0, 1) := by decide +kernel
theorem dX4_end_35 : decode cX4_end 35 = .ok (.getfield 41, 3) := by decide +kernel
theorem dX4_end_38 : decode cX4_end 38 = .ok (.ireturn, 1) := by decide +kernel
set_option maxRecDepth 20000 in
theorem ggX4_strip_X4_bit : GoodIn wsX4_strip wsX4_bit := goodIn_r _ [9] (by decide +kernel) (by decide +kernel)
set_option maxRecDepth 20000 in
theorem gX4_strip_X4_bit : GoodIn wsX4_strip (va_wsS RX4 120 yX4_bit wsX4_bit) := goodIn_app (goodIn_of _ (by decide +kernel)) ggX4_strip_X4_bit
set_option maxRecDepth 20000 in
theorem ggX4_strip_X4_winnerWithout : GoodIn wsX4_strip wsX4_winnerWithout := goodIn_r _ [13, 14, 5, 15, 16, 17, 8, 18, 19, 20, 21, 22, 23, 24, 25, 26, 27, 28, 29, 30, 31, 32, 33, 34, 35, 36, 37, 6, 7, 9, 38, 39, 40, 41, 42, 43, 44, 45, 46, 47, 48, 49, 50, 51, 52, 53, 54, 55, 56, 57, 58, 59, 60, 61, 62, 63, 64, 65, 66, 67, 68, 69, 70, 76, 77, 78, 79, 80, 81, 82, 83, 84, 85, 86, 87, 88, 89, 90, 91, 92, 93, 94, 95, 96, 97, 98, 99, 100, 101, 102, 103, 104, 105, 106, 107, 108, 109, 110, 111, 112, 113, 114, 115, 116, 117, 118, 119, 120, 121] (by decide +kernel) (by decide +kernel)
set_option maxRecDepth 20000 in
theorem gX4_strip_X4_winnerWithout : GoodIn wsX4_strip (wsV RX4 265 RX4 yX4_winnerWithout wsX4_winnerWithout) := goodIn_app (goodIn_of _ (by decide +kernel)) ggX4_strip_X4_winnerWithout
set_option maxRecDepth 20000 in
theorem ggX4_strip_X4_crown : GoodIn wsX4_strip wsX4_crown := goodIn_r _ [74, 4, 75, 6, 7, 8, 9, 76, 77, 78, 79, 80, 81, 82, 83, 84, 85, 86, 87, 88, 89, 90, 91, 92, 93, 94] (by decide +kernel) (by decide +kernel)
set_option maxRecDepth 20000 in
theorem gX4_strip_X4_crown : GoodIn wsX4_strip (wsV RX4 268 RX4 yX4_crown wsX4_crown) := goodIn_app (goodIn_of _ (by decide +kernel)) ggX4_strip_X4_crown
theorem dX4_strip_0 : decode cX4_strip 0 = .ok (.aload_n 0, 1) := by decide +kernel
theorem dX4_strip_1 : decode cX4_strip 1 = .ok (.getfield 37, 3) := by decide +kernel
theorem dX4_strip_4 : decode cX4_strip 4 = .ok (.iconst 4, 1) := by decide +kernel
theorem dX4_strip_5 : decode cX4_strip 5 = .ok (.if_icmp .ne 11, 3) := by decide +kernel
theorem dX4_strip_8 : decode cX4_strip 8 = .ok (.aload_n 0, 1) := by decide +kernel
theorem dX4_strip_9 : decode cX4_strip 9 = .ok (.getfield 41, 3) := by decide +kernel
theorem dX4_strip_12 : decode cX4_strip 12 = .ok (.iconst (-1), 1) := by decide +kernel
theorem dX4_strip_13 : decode cX4_strip 13 = .ok (.if_icmp .ne 14, 3) := by decide +kernel
theorem dX4_strip_16 : decode cX4_strip 16 = .ok (.new 57, 3) := by decide +kernel
theorem dX4_strip_19 : decode cX4_strip 19 = .ok (.dup, 1) := by decide +kernel
theorem dX4_strip_20 : decode cX4_strip 20 = .ok (.ldc_w 271, 3) := by decide +kernel
theorem dX4_strip_23 : decode cX4_strip 23 = .ok (.invokespecial 61, 3) := by decide +kernel
theorem dX4_strip_26 : decode cX4_strip 26 = .ok (.athrow, 1) := by decide +kernel
theorem dX4_strip_27 : decode cX4_strip 27 = .ok (.aload_n 0, 1) := by decide +kernel
theorem dX4_strip_28 : decode cX4_strip 28 = .ok (.dup, 1) := by decide +kernel
theorem dX4_strip_29 : decode cX4_strip 29 = .ok (.getfield 273, 3) := by decide +kernel
theorem dX4_strip_32 : decode cX4_strip 32 = .ok (.aload_n 0, 1) := by decide +kernel
theorem dX4_strip_33 : decode cX4_strip 33 = .ok (.getfield 41, 3) := by decide +kernel
theorem dX4_strip_36 : decode cX4_strip 36 = .ok (.invokestatic 120, 3) := by decide +kernel
theorem dX4_strip_39 : decode cX4_strip 39 = .ok (.ior, 1) := by decide +kernel
theorem dX4_strip_40 : decode cX4_strip 40 = .ok (.putfield 273, 3) := by decide +kernel
theorem dX4_strip_43 : decode cX4_strip 43 = .ok (.aload_n 0, 1) := by decide +kernel
theorem dX4_strip_44 : decode cX4_strip 44 = .ok (.aload_n 0, 1) := by decide +kernel
theorem dX4_strip_45 : decode cX4_strip 45 = .ok (.iconst 0, 1) := by decide +kernel
theorem dX4_strip_46 : decode cX4_strip 46 = .ok (.iconst 0, 1) := by decide +kernel
theorem dX4_strip_47 : decode cX4_strip 47 = .ok (.invokevirtual 265, 3) := by decide +kernel
theorem dX4_strip_50 : decode cX4_strip 50 = .ok (.invokevirtual 268, 3) := by decide +kernel
theorem dX4_strip_53 : decode cX4_strip 53 = .ok (.aload_n 0, 1) := by decide +kernel
theorem dX4_strip_54 : decode cX4_strip 54 = .ok (.getfield 41, 3) := by decide +kernel
theorem dX4_strip_57 : decode cX4_strip 57 = .ok (.ireturn, 1) := by decide +kernel
set_option maxRecDepth 20000 in
theorem ggX4_next_X3_set : GoodIn wsX4_next wsX3_set := goodIn_r _ [23, 24, 25, 26, 27, 61, 62, 63, 64] (by decide +kernel) (by decide +kernel)
set_option maxRecDepth 20000 in
theorem gX4_next_X3_set : GoodIn wsX4_next (wsV RX4 131 RX3 yX3_set wsX3_set) := goodIn_app (goodIn_of _ (by decide +kernel)) ggX4_next_X3_set
set_option maxRecDepth 20000 in
theorem ggX4_next_X2_clearYear : GoodIn wsX4_next wsX2_clearYear := goodIn_r _ [32, 33, 34, 35, 36, 37, 38, 39, 40, 41, 67, 68, 69, 70, 71, 72, 73, 74, 75, 76, 77, 78, 79, 80, 81, 82] (by decide +kernel) (by decide +kernel)
set_option maxRecDepth 20000 in
theorem gX4_next_X2_clearYear : GoodIn wsX4_next (wsV RX4 290 RX2 yX2_clearYear wsX2_clearYear) := goodIn_app (goodIn_of _ (by decide +kernel)) ggX4_next_X2_clearYear
theorem dX4_next_0 : decode cX4_next 0 = .ok (.aload_n 0, 1) := by decide +kernel
theorem dX4_next_1 : decode cX4_next 1 = .ok (.getfield 37, 3) := by decide +kernel
theorem dX4_next_4 : decode cX4_next 4 = .ok (.iconst 4, 1) := by decide +kernel
theorem dX4_next_5 : decode cX4_next 5 = .ok (.if_icmp .ne 12, 3) := by decide +kernel
theorem dX4_next_8 : decode cX4_next 8 = .ok (.aload_n 0, 1) := by decide +kernel
theorem dX4_next_9 : decode cX4_next 9 = .ok (.getfield 94, 3) := by decide +kernel
theorem dX4_next_12 : decode cX4_next 12 = .ok (.bipush 20, 2) := by decide +kernel
theorem dX4_next_14 : decode cX4_next 14 = .ok (.if_icmp .lt 14, 3) := by decide +kernel
theorem dX4_next_17 : decode cX4_next 17 = .ok (.new 57, 3) := by decide +kernel
theorem dX4_next_20 : decode cX4_next 20 = .ok (.dup, 1) := by decide +kernel
theorem dX4_next_21 : decode cX4_next 21 = .ok (.ldc_w 276, 3) := by decide +kernel
theorem dX4_next_24 : decode cX4_next 24 = .ok (.invokespecial 61, 3) := by decide +kernel
theorem dX4_next_27 : decode cX4_next 27 = .ok (.athrow, 1) := by decide +kernel
theorem dX4_next_28 : decode cX4_next 28 = .ok (.aload_n 0, 1) := by decide +kernel
theorem dX4_next_29 : decode cX4_next 29 = .ok (.dup, 1) := by decide +kernel
theorem dX4_next_30 : decode cX4_next 30 = .ok (.getfield 94, 3) := by decide +kernel
theorem dX4_next_33 : decode cX4_next 33 = .ok (.iconst 1, 1) := by decide +kernel
theorem dX4_next_34 : decode cX4_next 34 = .ok (.iadd, 1) := by decide +kernel
theorem dX4_next_35 : decode cX4_next 35 = .ok (.putfield 94, 3) := by decide +kernel
theorem dX4_next_38 : decode cX4_next 38 = .ok (.aload_n 0, 1) := by decide +kernel
theorem dX4_next_39 : decode cX4_next 39 = .ok (.iconst 0, 1) := by decide +kernel
theorem dX4_next_40 : decode cX4_next 40 = .ok (.putfield 37, 3) := by decide +kernel
theorem dX4_next_43 : decode cX4_next 43 = .ok (.aload_n 0, 1) := by decide +kernel
theorem dX4_next_44 : decode cX4_next 44 = .ok (.getfield 30, 3) := by decide +kernel
theorem dX4_next_47 : decode cX4_next 47 = .ok (.aload_n 0, 1) := by decide +kernel
theorem dX4_next_48 : decode cX4_next 48 = .ok (.getfield 34, 3) := by decide +kernel
theorem dX4_next_51 : decode cX4_next 51 = .ok (.getfield 278, 3) := by decide +kernel
theorem dX4_next_54 : decode cX4_next 54 = .ok (.aload_n 0, 1) := by decide +kernel
theorem dX4_next_55 : decode cX4_next 55 = .ok (.getfield 34, 3) := by decide +kernel
theorem dX4_next_58 : decode cX4_next 58 = .ok (.getfield 281, 3) := by decide +kernel
theorem dX4_next_61 : decode cX4_next 61 = .ok (.aload_n 0, 1) := by decide +kernel
theorem dX4_next_62 : decode cX4_next 62 = .ok (.getfield 34, 3) := by decide +kernel
theorem dX4_next_65 : decode cX4_next 65 = .ok (.getfield 284, 3) := by decide +kernel
theorem dX4_next_68 : decode cX4_next 68 = .ok (.aload_n 0, 1) := by decide +kernel
theorem dX4_next_69 : decode cX4_next 69 = .ok (.getfield 34, 3) := by decide +kernel
theorem dX4_next_72 : decode cX4_next 72 = .ok (.getfield 135, 3) := by decide +kernel
theorem dX4_next_75 : decode cX4_next 75 = .ok (.invokevirtual 131, 3) := by decide +kernel
theorem dX4_next_78 : decode cX4_next 78 = .ok (.aload_n 0, 1) := by decide +kernel
theorem dX4_next_79 : decode cX4_next 79 = .ok (.aload_n 0, 1) := by decide +kernel
theorem dX4_next_80 : decode cX4_next 80 = .ok (.getfield 41, 3) := by decide +kernel
theorem dX4_next_83 : decode cX4_next 83 = .ok (.putfield 44, 3) := by decide +kernel
theorem dX4_next_86 : decode cX4_next 86 = .ok (.aload_n 0, 1) := by decide +kernel
theorem dX4_next_87 : decode cX4_next 87 = .ok (.iconst (-1), 1) := by decide +kernel
theorem dX4_next_88 : decode cX4_next 88 = .ok (.putfield 41, 3) := by decide +kernel
theorem dX4_next_91 : decode cX4_next 91 = .ok (.aload_n 0, 1) := by decide +kernel
theorem dX4_next_92 : decode cX4_next 92 = .ok (.aload_n 0, 1) := by decide +kernel
theorem dX4_next_93 : decode cX4_next 93 = .ok (.getfield 220, 3) := by decide +kernel
theorem dX4_next_96 : decode cX4_next 96 = .ok (.putfield 287, 3) := by decide +kernel
theorem dX4_next_99 : decode cX4_next 99 = .ok (.aload_n 0, 1) := by decide +kernel
theorem dX4_next_100 : decode cX4_next 100 = .ok (.iconst 0, 1) := by decide +kernel
theorem dX4_next_101 : decode cX4_next 101 = .ok (.putfield 220, 3) := by decide +kernel
theorem dX4_next_104 : decode cX4_next 104 = .ok (.aload_n 0, 1) := by decide +kernel
theorem dX4_next_105 : decode cX4_next 105 = .ok (.iconst 0, 1) := by decide +kernel
theorem dX4_next_106 : decode cX4_next 106 = .ok (.putfield 246, 3) := by decide +kernel
theorem dX4_next_109 : decode cX4_next 109 = .ok (.iconst 0, 1) := by decide +kernel
theorem dX4_next_110 : decode cX4_next 110 = .ok (.istore_n 1, 1) := by decide +kernel
theorem dX4_next_111 : decode cX4_next 111 = .ok (.iload_n 1, 1) := by decide +kernel
theorem dX4_next_112 : decode cX4_next 112 = .ok (.iconst 5, 1) := by decide +kernel
theorem dX4_next_113 : decode cX4_next 113 = .ok (.if_icmp .ge 19, 3) := by decide +kernel
theorem dX4_next_116 : decode cX4_next 116 = .ok (.aload_n 0, 1) := by decide +kernel
theorem dX4_next_117 : decode cX4_next 117 = .ok (.getfield 11, 3) := by decide +kernel
theorem dX4_next_120 : decode cX4_next 120 = .ok (.iload_n 1, 1) := by decide +kernel
theorem dX4_next_121 : decode cX4_next 121 = .ok (.aaload, 1) := by decide +kernel
theorem dX4_next_122 : decode cX4_next 122 = .ok (.iconst 0, 1) := by decide +kernel
theorem dX4_next_123 : decode cX4_next 123 = .ok (.putfield 154, 3) := by decide +kernel
theorem dX4_next_126 : decode cX4_next 126 = .ok (.iinc 1 1, 3) := by decide +kernel
theorem dX4_next_129 : decode cX4_next 129 = .ok (.goto (-18), 3) := by decide +kernel
theorem dX4_next_132 : decode cX4_next 132 = .ok (.iconst 0, 1) := by decide +kernel
theorem dX4_next_133 : decode cX4_next 133 = .ok (.istore_n 1, 1) := by decide +kernel
theorem dX4_next_134 : decode cX4_next 134 = .ok (.iload_n 1, 1) := by decide +kernel
theorem dX4_next_135 : decode cX4_next 135 = .ok (.iconst 5, 1) := by decide +kernel
theorem dX4_next_136 : decode cX4_next 136 = .ok (.if_icmp .ge 18, 3) := by decide +kernel
theorem dX4_next_139 : decode cX4_next 139 = .ok (.aload_n 0, 1) := by decide +kernel
theorem dX4_next_140 : decode cX4_next 140 = .ok (.getfield 23, 3) := by decide +kernel
theorem dX4_next_143 : decode cX4_next 143 = .ok (.iload_n 1, 1) := by decide +kernel
theorem dX4_next_144 : decode cX4_next 144 = .ok (.aaload, 1) := by decide +kernel
theorem dX4_next_145 : decode cX4_next 145 = .ok (.invokevirtual 290, 3) := by decide +kernel
theorem dX4_next_148 : decode cX4_next 148 = .ok (.iinc 1 1, 3) := by decide +kernel
theorem dX4_next_151 : decode cX4_next 151 = .ok (.goto (-17), 3) := by decide +kernel
theorem dX4_next_154 : decode cX4_next 154 = .ok (.aload_n 0, 1) := by decide +kernel
theorem dX4_next_155 : decode cX4_next 155 = .ok (.getfield 94, 3) := by decide +kernel
theorem dX4_next_158 : decode cX4_next 158 = .ok (.ireturn, 1) := by decide +kernel
set_option maxRecDepth 20000 in
theorem ggX4_ofHouse_X4_isHouse : GoodIn wsX4_ofHouse wsX4_isHouse := goodIn_r _ [14, 15, 42, 43, 44, 45, 46, 47, 48, 49, 50, 51, 52, 53, 54, 55, 56, 57, 58, 59, 60] (by decide +kernel) (by decide +kernel)
set_option maxRecDepth 20000 in
theorem gX4_ofHouse_X4_isHouse : GoodIn wsX4_ofHouse (wsV RX4 64 RX4 yX4_isHouse wsX4_isHouse) := goodIn_app (goodIn_of _ (by decide +kernel)) ggX4_ofHouse_X4_isHouse
set_option maxRecDepth 20000 in
theorem ggX4_ofHouse_X4_quotaOf : GoodIn wsX4_ofHouse wsX4_quotaOf := goodIn_r _ [19, 20, 21, 22, 23, 24, 25, 26, 27, 13, 28, 29, 30, 31, 32, 33, 34, 42, 43, 44, 45, 46, 47, 48, 49, 50, 51, 52, 53, 54, 55, 56, 57, 58, 59, 60, 63, 64, 65, 66, 67, 68, 69, 70, 71, 72, 73] (by decide +kernel) (by decide +kernel)
set_option maxRecDepth 20000 in
theorem gX4_ofHouse_X4_quotaOf : GoodIn wsX4_ofHouse (wsV RX4 157 RX4 yX4_quotaOf wsX4_quotaOf) := goodIn_app (goodIn_of _ (by decide +kernel)) ggX4_ofHouse_X4_quotaOf
set_option maxRecDepth 20000 in
theorem ggX4_ofHouse_X4_allBooks : GoodIn wsX4_ofHouse wsX4_allBooks := goodIn_r _ [38, 29, 39, 40, 13, 41, 42, 43, 44, 45, 46, 47, 48, 49, 50, 51, 52, 53, 54, 55, 56, 57, 58, 59, 60] (by decide +kernel) (by decide +kernel)
set_option maxRecDepth 20000 in
theorem gX4_ofHouse_X4_allBooks : GoodIn wsX4_ofHouse (wsV RX4 296 RX4 yX4_allBooks wsX4_allBooks) := goodIn_app (goodIn_of _ (by decide +kernel)) ggX4_ofHouse_X4_allBooks
set_option maxRecDepth 20000 in
theorem ggX4_ofHouse_X4_countOfHouse : GoodIn wsX4_ofHouse wsX4_countOfHouse := goodIn_r _ [28, 29, 30, 31, 32, 33, 13, 34, 42, 43, 44, 45, 46, 47, 48, 49, 50, 51, 52, 53, 54, 55, 56, 57, 58, 59, 60, 63, 64, 65, 66, 67, 68, 69, 70, 71, 72, 73] (by decide +kernel) (by decide +kernel)
set_option maxRecDepth 20000 in
theorem gX4_ofHouse_X4_countOfHouse : GoodIn wsX4_ofHouse (wsV RX4 299 RX4 yX4_countOfHouse wsX4_countOfHouse) := goodIn_app (goodIn_of _ (by decide +kernel)) ggX4_ofHouse_X4_countOfHouse
theorem dX4_ofHouse_0 : decode cX4_ofHouse 0 = .ok (.aload_n 0, 1) := by decide +kernel
theorem dX4_ofHouse_1 : decode cX4_ofHouse 1 = .ok (.iload_n 1, 1) := by decide +kernel
theorem dX4_ofHouse_2 : decode cX4_ofHouse 2 = .ok (.invokevirtual 64, 3) := by decide +kernel
theorem dX4_ofHouse_5 : decode cX4_ofHouse 5 = .ok (.ifCond .ne 13, 3) := by decide +kernel
theorem dX4_ofHouse_8 : decode cX4_ofHouse 8 = .ok (.new 68, 3) := by decide +kernel
theorem dX4_ofHouse_11 : decode cX4_ofHouse 11 = .ok (.dup, 1) := by decide +kernel
theorem dX4_ofHouse_12 : decode cX4_ofHouse 12 = .ok (.ldc 70, 2) := by decide +kernel
theorem dX4_ofHouse_14 : decode cX4_ofHouse 14 = .ok (.invokespecial 72, 3) := by decide +kernel
theorem dX4_ofHouse_17 : decode cX4_ofHouse 17 = .ok (.athrow, 1) := by decide +kernel
theorem dX4_ofHouse_18 : decode cX4_ofHouse 18 = .ok (.iload_n 2, 1) := by decide +kernel
theorem dX4_ofHouse_19 : decode cX4_ofHouse 19 = .ok (.tableswitch 86 0 4 #[33, 43, 49, 59, 69], 33) := by decide +kernel
theorem dX4_ofHouse_52 : decode cX4_ofHouse 52 = .ok (.aload_n 0, 1) := by decide +kernel
theorem dX4_ofHouse_53 : decode cX4_ofHouse 53 = .ok (.getfield 11, 3) := by decide +kernel
theorem dX4_ofHouse_56 : decode cX4_ofHouse 56 = .ok (.iload_n 1, 1) := by decide +kernel
theorem dX4_ofHouse_57 : decode cX4_ofHouse 57 = .ok (.aaload, 1) := by decide +kernel
theorem dX4_ofHouse_58 : decode cX4_ofHouse 58 = .ok (.getfield 293, 3) := by decide +kernel
theorem dX4_ofHouse_61 : decode cX4_ofHouse 61 = .ok (.ireturn, 1) := by decide +kernel
theorem dX4_ofHouse_62 : decode cX4_ofHouse 62 = .ok (.aload_n 0, 1) := by decide +kernel
theorem dX4_ofHouse_63 : decode cX4_ofHouse 63 = .ok (.iload_n 1, 1) := by decide +kernel
theorem dX4_ofHouse_64 : decode cX4_ofHouse 64 = .ok (.invokevirtual 157, 3) := by decide +kernel
theorem dX4_ofHouse_67 : decode cX4_ofHouse 67 = .ok (.ireturn, 1) := by decide +kernel
theorem dX4_ofHouse_68 : decode cX4_ofHouse 68 = .ok (.aload_n 0, 1) := by decide +kernel
theorem dX4_ofHouse_69 : decode cX4_ofHouse 69 = .ok (.getfield 11, 3) := by decide +kernel
theorem dX4_ofHouse_72 : decode cX4_ofHouse 72 = .ok (.iload_n 1, 1) := by decide +kernel
theorem dX4_ofHouse_73 : decode cX4_ofHouse 73 = .ok (.aaload, 1) := by decide +kernel
theorem dX4_ofHouse_74 : decode cX4_ofHouse 74 = .ok (.getfield 154, 3) := by decide +kernel
theorem dX4_ofHouse_77 : decode cX4_ofHouse 77 = .ok (.ireturn, 1) := by decide +kernel
theorem dX4_ofHouse_78 : decode cX4_ofHouse 78 = .ok (.aload_n 0, 1) := by decide +kernel
theorem dX4_ofHouse_79 : decode cX4_ofHouse 79 = .ok (.iload_n 1, 1) := by decide +kernel
theorem dX4_ofHouse_80 : decode cX4_ofHouse 80 = .ok (.aload_n 0, 1) := by decide +kernel
theorem dX4_ofHouse_81 : decode cX4_ofHouse 81 = .ok (.invokevirtual 296, 3) := by decide +kernel
theorem dX4_ofHouse_84 : decode cX4_ofHouse 84 = .ok (.invokevirtual 299, 3) := by decide +kernel
theorem dX4_ofHouse_87 : decode cX4_ofHouse 87 = .ok (.ireturn, 1) := by decide +kernel
theorem dX4_ofHouse_88 : decode cX4_ofHouse 88 = .ok (.aload_n 0, 1) := by decide +kernel
theorem dX4_ofHouse_89 : decode cX4_ofHouse 89 = .ok (.iload_n 1, 1) := by decide +kernel
theorem dX4_ofHouse_90 : decode cX4_ofHouse 90 = .ok (.aload_n 0, 1) := by decide +kernel
theorem dX4_ofHouse_91 : decode cX4_ofHouse 91 = .ok (.getfield 302, 3) := by decide +kernel
theorem dX4_ofHouse_94 : decode cX4_ofHouse 94 = .ok (.aload_n 0, 1) := by decide +kernel
theorem dX4_ofHouse_95 : decode cX4_ofHouse 95 = .ok (.getfield 273, 3) := by decide +kernel
theorem dX4_ofHouse_98 : decode cX4_ofHouse 98 = .ok (.iconst (-1), 1) := by decide +kernel
theorem dX4_ofHouse_99 : decode cX4_ofHouse 99 = .ok (.ixor, 1) := by decide +kernel
theorem dX4_ofHouse_100 : decode cX4_ofHouse 100 = .ok (.iand, 1) := by decide +kernel
theorem dX4_ofHouse_101 : decode cX4_ofHouse 101 = .ok (.invokevirtual 299, 3) := by decide +kernel
theorem dX4_ofHouse_104 : decode cX4_ofHouse 104 = .ok (.ireturn, 1) := by decide +kernel
theorem dX4_ofHouse_105 : decode cX4_ofHouse 105 = .ok (.new 80, 3) := by decide +kernel
theorem dX4_ofHouse_108 : decode cX4_ofHouse 108 = .ok (.dup, 1) := by decide +kernel
theorem dX4_ofHouse_109 : decode cX4_ofHouse 109 = .ok (.ldc_w 305, 3) := by decide +kernel
theorem dX4_ofHouse_112 : decode cX4_ofHouse 112 = .ok (.invokespecial 84, 3) := by decide +kernel
theorem dX4_ofHouse_115 : decode cX4_ofHouse 115 = .ok (.athrow, 1) := by decide +kernel
set_option maxRecDepth 20000 in
theorem ggX4_ofBook_X4_isBook : GoodIn wsX4_ofBook wsX4_isBook := goodIn_r _ [15, 16, 87, 88, 89, 90, 91, 92, 93, 94, 95, 96, 97, 98, 99, 100, 101, 102, 103, 104, 105] (by decide +kernel) (by decide +kernel)
set_option maxRecDepth 20000 in
theorem gX4_ofBook_X4_isBook : GoodIn wsX4_ofBook (wsV RX4 138 RX4 yX4_isBook wsX4_isBook) := goodIn_app (goodIn_of _ (by decide +kernel)) ggX4_ofBook_X4_isBook
set_option maxRecDepth 20000 in
theorem ggX4_ofBook_X4_isEligible : GoodIn wsX4_ofBook wsX4_isEligible := goodIn_r _ [20, 5, 21, 22, 23, 24, 25, 26, 27, 28, 29, 30, 31, 32, 33, 34, 35, 14, 36, 37, 38, 87, 88, 89, 90, 91, 92, 93, 94, 95, 96, 97, 98, 99, 100, 101, 102, 103, 104, 105, 106, 107, 108, 109, 110, 111, 112, 113, 114, 115, 116, 117, 118, 119, 120] (by decide +kernel) (by decide +kernel)
set_option maxRecDepth 20000 in
theorem gX4_ofBook_X4_isEligible : GoodIn wsX4_ofBook (wsV RX4 148 RX4 yX4_isEligible wsX4_isEligible) := goodIn_app (goodIn_of _ (by decide +kernel)) ggX4_ofBook_X4_isEligible
set_option maxRecDepth 20000 in
theorem ggX4_ofBook_X4_isEntered : GoodIn wsX4_ofBook wsX4_isEntered := goodIn_r _ [42, 5, 21, 22, 87, 88, 89, 90, 91, 92, 93, 94, 95, 96, 97, 98, 99, 100, 101, 102, 103, 104, 105, 106, 107, 108, 109, 110, 111, 112, 113, 114, 115, 116] (by decide +kernel) (by decide +kernel)
set_option maxRecDepth 20000 in
theorem gX4_ofBook_X4_isEntered : GoodIn wsX4_ofBook (wsV RX4 143 RX4 yX4_isEntered wsX4_isEntered) := goodIn_app (goodIn_of _ (by decide +kernel)) ggX4_ofBook_X4_isEntered
set_option maxRecDepth 20000 in
theorem ggX4_ofBook_X4_standingOf : GoodIn wsX4_ofBook wsX4_standingOf := goodIn_r _ [46, 47, 48, 49, 50, 35, 14, 36, 87, 88, 89, 90, 91, 92, 93, 94, 95, 96, 97, 98, 99, 100, 101, 102, 103, 104, 105] (by decide +kernel) (by decide +kernel)
set_option maxRecDepth 20000 in
theorem gX4_ofBook_X4_standingOf : GoodIn wsX4_ofBook (wsV RX4 313 RX4 yX4_standingOf wsX4_standingOf) := goodIn_app (goodIn_of _ (by decide +kernel)) ggX4_ofBook_X4_standingOf
set_option maxRecDepth 20000 in
theorem ggX4_ofBook_X4_scoreOf : GoodIn wsX4_ofBook wsX4_scoreOf := goodIn_r _ [54, 55, 56, 57, 58, 59, 60, 14, 61, 5, 7, 62, 63, 64, 65, 66, 67, 68, 69, 70, 71, 72, 73, 74, 75, 76, 77, 87, 88, 89, 90, 91, 92, 93, 94, 95, 96, 97, 98, 99, 100, 101, 102, 103, 104, 105, 121, 122, 123, 124, 125, 126, 127, 128, 129, 130, 131, 132, 133, 134, 135, 136, 106, 107, 108, 109, 110, 111, 112, 113, 114, 115, 116] (by decide +kernel) (by decide +kernel)
set_option maxRecDepth 20000 in
theorem gX4_ofBook_X4_scoreOf : GoodIn wsX4_ofBook (wsV RX4 316 RX4 yX4_scoreOf wsX4_scoreOf) := goodIn_app (goodIn_of _ (by decide +kernel)) ggX4_ofBook_X4_scoreOf
set_option maxRecDepth 20000 in
theorem ggX4_ofBook_X4_fairMarksOf : GoodIn wsX4_ofBook wsX4_fairMarksOf := goodIn_r _ [81, 55, 58, 59, 60, 14, 61, 56, 57, 5, 7, 62, 63, 64, 65, 66, 67, 87, 88, 89, 90, 91, 92, 93, 94, 95, 96, 97, 98, 99, 100, 101, 102, 103, 104, 105, 121, 122, 123, 124, 125, 126, 127, 128, 129, 130, 131, 132, 133, 134, 135, 136, 106, 107, 108, 109, 110, 111, 112, 113, 114, 115, 116] (by decide +kernel) (by decide +kernel)
set_option maxRecDepth 20000 in
theorem gX4_ofBook_X4_fairMarksOf : GoodIn wsX4_ofBook (wsV RX4 319 RX4 yX4_fairMarksOf wsX4_fairMarksOf) := goodIn_app (goodIn_of _ (by decide +kernel)) ggX4_ofBook_X4_fairMarksOf
set_option maxRecDepth 20000 in
theorem ggX4_ofBook_X4_pointsOf : GoodIn wsX4_ofBook wsX4_pointsOf := goodIn_r _ [85, 55, 56, 5, 7, 86, 62, 63, 64, 65, 66, 67, 87, 88, 89, 90, 91, 92, 93, 94, 95, 96, 97, 98, 99, 100, 101, 102, 103, 104, 105, 106, 107, 108, 109, 110, 111, 112, 113, 114, 115, 116, 121, 122, 123, 124, 125, 126, 127, 128, 129, 130, 131, 132, 133, 134, 135, 136] (by decide +kernel) (by decide +kernel)
set_option maxRecDepth 20000 in
theorem gX4_ofBook_X4_pointsOf : GoodIn wsX4_ofBook (wsV RX4 322 RX4 yX4_pointsOf wsX4_pointsOf) := goodIn_app (goodIn_of _ (by decide +kernel)) ggX4_ofBook_X4_pointsOf
theorem dX4_ofBook_0 : decode cX4_ofBook 0 = .ok (.aload_n 0, 1) := by decide +kernel
theorem dX4_ofBook_1 : decode cX4_ofBook 1 = .ok (.iload_n 1, 1) := by decide +kernel
theorem dX4_ofBook_2 : decode cX4_ofBook 2 = .ok (.invokevirtual 138, 3) := by decide +kernel
theorem dX4_ofBook_5 : decode cX4_ofBook 5 = .ok (.ifCond .ne 13, 3) := by decide +kernel
theorem dX4_ofBook_8 : decode cX4_ofBook 8 = .ok (.new 68, 3) := by decide +kernel
theorem dX4_ofBook_11 : decode cX4_ofBook 11 = .ok (.dup, 1) := by decide +kernel
theorem dX4_ofBook_12 : decode cX4_ofBook 12 = .ok (.ldc 141, 2) := by decide +kernel
theorem dX4_ofBook_14 : decode cX4_ofBook 14 = .ok (.invokespecial 72, 3) := by decide +kernel
theorem dX4_ofBook_17 : decode cX4_ofBook 17 = .ok (.athrow, 1) := by decide +kernel
theorem dX4_ofBook_18 : decode cX4_ofBook 18 = .ok (.iload_n 2, 1) := by decide +kernel
theorem dX4_ofBook_19 : decode cX4_ofBook 19 = .ok (.tableswitch 159 0 10 #[57, 67, 77, 87, 97, 107, 121, 135, 141, 147, 153], 57) := by decide +kernel
theorem dX4_ofBook_76 : decode cX4_ofBook 76 = .ok (.aload_n 0, 1) := by decide +kernel
theorem dX4_ofBook_77 : decode cX4_ofBook 77 = .ok (.getfield 17, 3) := by decide +kernel
theorem dX4_ofBook_80 : decode cX4_ofBook 80 = .ok (.iload_n 1, 1) := by decide +kernel
theorem dX4_ofBook_81 : decode cX4_ofBook 81 = .ok (.aaload, 1) := by decide +kernel
theorem dX4_ofBook_82 : decode cX4_ofBook 82 = .ok (.getfield 151, 3) := by decide +kernel
theorem dX4_ofBook_85 : decode cX4_ofBook 85 = .ok (.ireturn, 1) := by decide +kernel
theorem dX4_ofBook_86 : decode cX4_ofBook 86 = .ok (.aload_n 0, 1) := by decide +kernel
theorem dX4_ofBook_87 : decode cX4_ofBook 87 = .ok (.getfield 17, 3) := by decide +kernel
theorem dX4_ofBook_90 : decode cX4_ofBook 90 = .ok (.iload_n 1, 1) := by decide +kernel
theorem dX4_ofBook_91 : decode cX4_ofBook 91 = .ok (.aaload, 1) := by decide +kernel
theorem dX4_ofBook_92 : decode cX4_ofBook 92 = .ok (.getfield 170, 3) := by decide +kernel
theorem dX4_ofBook_95 : decode cX4_ofBook 95 = .ok (.ireturn, 1) := by decide +kernel
theorem dX4_ofBook_96 : decode cX4_ofBook 96 = .ok (.aload_n 0, 1) := by decide +kernel
theorem dX4_ofBook_97 : decode cX4_ofBook 97 = .ok (.getfield 17, 3) := by decide +kernel
theorem dX4_ofBook_100 : decode cX4_ofBook 100 = .ok (.iload_n 1, 1) := by decide +kernel
theorem dX4_ofBook_101 : decode cX4_ofBook 101 = .ok (.aaload, 1) := by decide +kernel
theorem dX4_ofBook_102 : decode cX4_ofBook 102 = .ok (.getfield 187, 3) := by decide +kernel
theorem dX4_ofBook_105 : decode cX4_ofBook 105 = .ok (.ireturn, 1) := by decide +kernel
theorem dX4_ofBook_106 : decode cX4_ofBook 106 = .ok (.aload_n 0, 1) := by decide +kernel
theorem dX4_ofBook_107 : decode cX4_ofBook 107 = .ok (.getfield 17, 3) := by decide +kernel
theorem dX4_ofBook_110 : decode cX4_ofBook 110 = .ok (.iload_n 1, 1) := by decide +kernel
theorem dX4_ofBook_111 : decode cX4_ofBook 111 = .ok (.aaload, 1) := by decide +kernel
theorem dX4_ofBook_112 : decode cX4_ofBook 112 = .ok (.getfield 307, 3) := by decide +kernel
theorem dX4_ofBook_115 : decode cX4_ofBook 115 = .ok (.ireturn, 1) := by decide +kernel
theorem dX4_ofBook_116 : decode cX4_ofBook 116 = .ok (.aload_n 0, 1) := by decide +kernel
theorem dX4_ofBook_117 : decode cX4_ofBook 117 = .ok (.getfield 17, 3) := by decide +kernel
theorem dX4_ofBook_120 : decode cX4_ofBook 120 = .ok (.iload_n 1, 1) := by decide +kernel
theorem dX4_ofBook_121 : decode cX4_ofBook 121 = .ok (.aaload, 1) := by decide +kernel
theorem dX4_ofBook_122 : decode cX4_ofBook 122 = .ok (.getfield 310, 3) := by decide +kernel
theorem dX4_ofBook_125 : decode cX4_ofBook 125 = .ok (.ireturn, 1) := by decide +kernel
theorem dX4_ofBook_126 : decode cX4_ofBook 126 = .ok (.aload_n 0, 1) := by decide +kernel
theorem dX4_ofBook_127 : decode cX4_ofBook 127 = .ok (.iload_n 1, 1) := by decide +kernel
theorem dX4_ofBook_128 : decode cX4_ofBook 128 = .ok (.invokevirtual 148, 3) := by decide +kernel
theorem dX4_ofBook_131 : decode cX4_ofBook 131 = .ok (.ifCond .eq 7, 3) := by decide +kernel
theorem dX4_ofBook_134 : decode cX4_ofBook 134 = .ok (.iconst 1, 1) := by decide +kernel
theorem dX4_ofBook_135 : decode cX4_ofBook 135 = .ok (.goto 4, 3) := by decide +kernel
theorem dX4_ofBook_138 : decode cX4_ofBook 138 = .ok (.iconst 0, 1) := by decide +kernel
theorem dX4_ofBook_139 : decode cX4_ofBook 139 = .ok (.ireturn, 1) := by decide +kernel
theorem dX4_ofBook_140 : decode cX4_ofBook 140 = .ok (.aload_n 0, 1) := by decide +kernel
theorem dX4_ofBook_141 : decode cX4_ofBook 141 = .ok (.iload_n 1, 1) := by decide +kernel
theorem dX4_ofBook_142 : decode cX4_ofBook 142 = .ok (.invokevirtual 143, 3) := by decide +kernel
theorem dX4_ofBook_145 : decode cX4_ofBook 145 = .ok (.ifCond .eq 7, 3) := by decide +kernel
theorem dX4_ofBook_148 : decode cX4_ofBook 148 = .ok (.iconst 1, 1) := by decide +kernel
theorem dX4_ofBook_149 : decode cX4_ofBook 149 = .ok (.goto 4, 3) := by decide +kernel
theorem dX4_ofBook_152 : decode cX4_ofBook 152 = .ok (.iconst 0, 1) := by decide +kernel
theorem dX4_ofBook_153 : decode cX4_ofBook 153 = .ok (.ireturn, 1) := by decide +kernel
theorem dX4_ofBook_154 : decode cX4_ofBook 154 = .ok (.aload_n 0, 1) := by decide +kernel
theorem dX4_ofBook_155 : decode cX4_ofBook 155 = .ok (.iload_n 1, 1) := by decide +kernel
theorem dX4_ofBook_156 : decode cX4_ofBook 156 = .ok (.invokevirtual 313, 3) := by decide +kernel
theorem dX4_ofBook_159 : decode cX4_ofBook 159 = .ok (.ireturn, 1) := by decide +kernel
theorem dX4_ofBook_160 : decode cX4_ofBook 160 = .ok (.aload_n 0, 1) := by decide +kernel
theorem dX4_ofBook_161 : decode cX4_ofBook 161 = .ok (.iload_n 1, 1) := by decide +kernel
theorem dX4_ofBook_162 : decode cX4_ofBook 162 = .ok (.invokevirtual 316, 3) := by decide +kernel
theorem dX4_ofBook_165 : decode cX4_ofBook 165 = .ok (.ireturn, 1) := by decide +kernel
theorem dX4_ofBook_166 : decode cX4_ofBook 166 = .ok (.aload_n 0, 1) := by decide +kernel
theorem dX4_ofBook_167 : decode cX4_ofBook 167 = .ok (.iload_n 1, 1) := by decide +kernel
theorem dX4_ofBook_168 : decode cX4_ofBook 168 = .ok (.invokevirtual 319, 3) := by decide +kernel
theorem dX4_ofBook_171 : decode cX4_ofBook 171 = .ok (.ireturn, 1) := by decide +kernel
theorem dX4_ofBook_172 : decode cX4_ofBook 172 = .ok (.aload_n 0, 1) := by decide +kernel
theorem dX4_ofBook_173 : decode cX4_ofBook 173 = .ok (.iload_n 1, 1) := by decide +kernel
theorem dX4_ofBook_174 : decode cX4_ofBook 174 = .ok (.invokevirtual 322, 3) := by decide +kernel
theorem dX4_ofBook_177 : decode cX4_ofBook 177 = .ok (.ireturn, 1) := by decide +kernel
theorem dX4_ofBook_178 : decode cX4_ofBook 178 = .ok (.new 80, 3) := by decide +kernel
