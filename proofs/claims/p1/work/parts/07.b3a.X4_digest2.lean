set_option maxRecDepth 20000 in
theorem gd_X4_digest_8 : GoodIn wsL_law wsX4_digest_r9 := goodIn_r _ [927, 292, 293, 294, 295, 611, 543, 544, 545, 475, 533, 768, 769, 770, 771, 705, 706, 707, 708, 57, 1076, 940, 941, 942] (by decide +kernel) (by decide +kernel)
set_option maxRecDepth 20000 in
theorem gd_X4_digest_9 : GoodIn wsL_law wsX4_digest_r10 := goodIn_r _ [1077, 983, 984, 985, 239, 1078, 995, 996, 997, 998, 999, 1000, 1001, 1002, 1003, 1004, 1005, 1079, 1034, 1035, 1036, 1037, 179, 181] (by decide +kernel) (by decide +kernel)
set_option maxRecDepth 20000 in
theorem gd_X4_digest_10 : GoodIn wsL_law wsX4_digest_r11 := goodIn_r _ [1038, 1039, 1040, 1041, 537, 538, 539, 540, 276, 541, 1080, 1054, 1055, 1056, 559, 560, 561, 562] (by decide +kernel) (by decide +kernel)
set_option maxRecDepth 20000 in
theorem gd_X4_digest_wsX40 : GoodIn wsL_law wsX40 := goodIn_r _ [1092, 1093, 1094, 1095, 1096, 1097, 1098, 1099, 1100, 1101, 1102, 1103, 1104, 1105, 1106, 1107, 1108, 1109, 1110] (by decide +kernel) (by decide +kernel)
set_option maxRecDepth 20000 in
theorem gd_X4_digest_wsX30 : GoodIn wsL_law wsX30 := goodIn_r _ [1131, 1132, 1133, 1134] (by decide +kernel) (by decide +kernel)
set_option maxRecDepth 20000 in
theorem gd_X4_digest_wsX00 : GoodIn wsL_law wsX00 := goodIn_r _ [1137, 1138, 1139, 1140, 1141, 1142, 1143, 1144, 1145, 1146, 1147] (by decide +kernel) (by decide +kernel)
set_option maxRecDepth 20000 in
theorem gd_X4_digest_wsX10 : GoodIn wsL_law wsX10 := goodIn_r _ [1135, 1136] (by decide +kernel) (by decide +kernel)
set_option maxRecDepth 20000 in
theorem gd_X4_digest_wsX20 : GoodIn wsL_law wsX20 := goodIn_r _ [1148, 1149, 1150, 1151, 1152, 1153, 1154, 1155, 1156, 1157, 1158, 1159, 1160, 1161, 1162, 1163] (by decide +kernel) (by decide +kernel)
theorem ggL_law_X4_digest : GoodIn wsL_law wsX4_digest := fun w h => (List.mem_cons.mp h).elim (fun q => gd_X4_digest_h w (List.mem_cons.mpr (Or.inl q))) (fun h => (goodIn_app (goodIn_app (goodIn_app (goodIn_app (goodIn_app (goodIn_app (goodIn_app (goodIn_app gd_X4_digest_0 (goodIn_app gd_X4_digest_1 (goodIn_app gd_X4_digest_2 (goodIn_app gd_X4_digest_3 (goodIn_app gd_X4_digest_4 (goodIn_app gd_X4_digest_5 (goodIn_app gd_X4_digest_6 (goodIn_app gd_X4_digest_7 (goodIn_app gd_X4_digest_8 (goodIn_app gd_X4_digest_9 gd_X4_digest_10)))))))))) gd_X4_digest_wsX40) gd_X4_digest_wsX30) gd_X4_digest_wsX00) gd_X4_digest_wsX10) gd_X4_digest_wsX20) (goodIn_sub (fun _ h => List.mem_append_right _ h) (by decide +kernel))) (goodIn_sub (fun _ h => List.mem_append_left _ (List.mem_append_right _ h)) (by decide +kernel))) w h)

