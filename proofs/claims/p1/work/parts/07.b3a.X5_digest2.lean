set_option maxRecDepth 20000 in
theorem gd_X5_digest_7 : GoodIn wsL_law wsX5_digest_r8 := goodIn_r _ [831, 832, 833, 834, 835, 836, 837, 838, 839, 840, 841, 842, 843, 844, 845, 932, 933, 934, 935, 71, 96, 673, 674, 675] (by decide +kernel) (by decide +kernel)
set_option maxRecDepth 20000 in
theorem gd_X5_digest_8 : GoodIn wsL_law wsX5_digest_r9 := goodIn_r _ [676, 480, 481, 482, 483, 484, 485, 486, 487, 488, 489, 584, 585, 586, 587, 713, 714, 715, 716, 1010, 1011, 1012, 1013, 1014] (by decide +kernel) (by decide +kernel)
set_option maxRecDepth 20000 in
theorem gd_X5_digest_9 : GoodIn wsL_law wsX5_digest_r10 := goodIn_r _ [1015, 1016, 1017, 1046, 1047, 1048, 1049, 583, 179, 181, 588, 589, 590, 591, 1061, 1062, 1063, 1064, 596, 597, 598, 599] (by decide +kernel) (by decide +kernel)
set_option maxRecDepth 20000 in
theorem gd_X5_digest_wsX50 : GoodIn wsL_law wsX50 := goodIn_r _ [1111, 1112, 1113, 1114, 1115, 1116, 1117, 1118, 1119, 1120, 1121, 1122, 1123, 1124, 1125, 1126, 1127, 1128, 1129, 1130] (by decide +kernel) (by decide +kernel)
set_option maxRecDepth 20000 in
theorem gd_X5_digest_wsJx354110 : GoodIn wsL_law wsJx354110 := goodIn_r _ [1167, 1168, 1169, 1170] (by decide +kernel) (by decide +kernel)
set_option maxRecDepth 20000 in
theorem gd_X5_digest_wsJx4a65c0 : GoodIn wsL_law wsJx4a65c0 := goodIn_r _ [1164, 1165, 1166] (by decide +kernel) (by decide +kernel)
set_option maxRecDepth 20000 in
theorem gd_X5_digest_wsJ60 : GoodIn wsL_law wsJ60 := goodIn_r _ [1171] (by decide +kernel) (by decide +kernel)
theorem ggL_law_X5_digest : GoodIn wsL_law wsX5_digest := fun w h => (List.mem_cons.mp h).elim (fun q => gd_X5_digest_h w (List.mem_cons.mpr (Or.inl q))) (fun h => (goodIn_app (goodIn_app (goodIn_app (goodIn_app (goodIn_app gd_X5_digest_0 (goodIn_app gd_X5_digest_1 (goodIn_app gd_X5_digest_2 (goodIn_app gd_X5_digest_3 (goodIn_app gd_X5_digest_4 (goodIn_app gd_X5_digest_5 (goodIn_app gd_X5_digest_6 (goodIn_app gd_X5_digest_7 (goodIn_app gd_X5_digest_8 gd_X5_digest_9))))))))) gd_X5_digest_wsX50) gd_X5_digest_wsJx354110) gd_X5_digest_wsJx4a65c0) gd_X5_digest_wsJ60) w h)

