set_option maxRecDepth 20000 in
theorem ggL_law_X5_ofBook : GoodIn wsL_law wsX5_ofBook := goodIn_r _ [912, 153, 402, 403, 404, 5, 405, 67, 154, 155, 156, 65, 157, 136, 261, 262, 263, 158, 159, 160, 161, 913, 914, 915, 916, 97, 75, 99, 98, 314, 315, 316, 317, 318, 319, 320, 321, 322, 323, 324, 325, 326, 327, 328, 329, 81, 410, 411, 412, 413, 256, 69, 406, 407, 408, 409, 689, 690, 691, 692, 68, 73, 681, 682, 683, 684, 450, 451, 452, 453, 693, 694, 695, 696, 677, 678, 679, 680, 697, 666, 667, 668, 736, 737, 738, 739, 74, 740, 741, 301, 742, 1111, 1112, 1113, 1114, 1115, 1116, 1117, 1118, 1119, 1120, 1121, 1122, 1123, 1124, 1125, 1126, 1127, 1128, 1129, 1130, 1164, 1165, 1166] (by decide +kernel) (by decide +kernel)
set_option maxRecDepth 20000 in
theorem ggL_law_L_ofJudge : GoodIn wsL_law wsL_ofJudge := goodIn_ca (goodIn_ca (goodIn_r _ [919, 219, 220, 920, 921, 922, 2, 923, 225, 226, 227, 228, 18, 924, 291, 925, 926, 927, 292, 293, 294, 295, 271, 611, 543, 544, 34, 545, 475, 533, 768, 769, 770, 771, 772, 705, 706, 707, 708, 57, 1092, 1093, 1094, 1095, 1096, 1097, 1098, 1099, 1100, 1101, 1102, 1103, 1104, 1105, 1106, 1107, 1108, 1109, 1110, 1148, 1149, 1150, 1151, 1152, 1153, 1154, 1155, 1156, 1157, 1158, 1159, 1160, 1161, 1162, 1163] (by decide +kernel) (by decide +kernel)) (goodIn_sub (fun _ h => List.mem_append_left _ (List.mem_append_right _ h)) (by decide +kernel))) (goodIn_sub (fun _ h => List.mem_append_right _ h) (by decide +kernel))
set_option maxRecDepth 20000 in
theorem ggL_law_X5_ofJudge : GoodIn wsL_law wsX5_ofJudge := goodIn_r _ [931, 153, 310, 311, 312, 5, 313, 68, 154, 155, 156, 65, 157, 136, 261, 262, 263, 158, 159, 160, 161, 932, 933, 934, 935, 97, 27, 71, 96, 314, 315, 316, 317, 318, 319, 320, 321, 322, 323, 324, 325, 326, 327, 328, 329, 81, 673, 674, 675, 676, 480, 481, 482, 483, 484, 67, 101, 102, 103, 104, 105, 106, 107, 108, 109, 110, 111, 112, 11, 12, 113, 114, 115, 116, 117, 118, 119, 120, 121, 122, 123, 124, 125, 126, 127, 128, 129, 130, 485, 486, 487, 301, 488, 489, 584, 585, 586, 587, 713, 714, 715, 716, 74, 1111, 1112, 1113, 1114, 1115, 1116, 1117, 1118, 1119, 1120, 1121, 1122, 1123, 1124, 1125, 1126, 1127, 1128, 1129, 1130, 1164, 1165, 1166, 1167, 1168, 1169, 1170, 1171] (by decide +kernel) (by decide +kernel)
set_option maxRecDepth 20000 in
theorem ggL_law_L_mark : GoodIn wsL_law wsL_mark := goodIn_ca (goodIn_r _ [938, 219, 939, 940, 941, 2, 942, 225, 226, 18, 632, 292, 293, 294, 295, 271, 357, 358, 359, 360, 229, 1092, 1093, 1094, 1095, 1096, 1097, 1098, 1099, 1100, 1101, 1102, 1103, 1104, 1105, 1106, 1107, 1108, 1109, 1110, 1148, 1149, 1150, 1151, 1152, 1153, 1154, 1155, 1156, 1157, 1158, 1159, 1160, 1161, 1162, 1163] (by decide +kernel) (by decide +kernel)) (goodIn_sub (fun _ h => List.mem_append_left _ (List.mem_append_right _ h)) (by decide +kernel))
set_option maxRecDepth 20000 in
theorem ggL_law_X5_mark : GoodIn wsL_law wsX5_mark := goodIn_r _ [946, 153, 73, 310, 311, 312, 5, 313, 68, 154, 155, 156, 65, 157, 136, 261, 262, 263, 402, 403, 404, 405, 67, 158, 159, 160, 161, 1111, 1112, 1113, 1114, 1115, 1116, 1117, 1118, 1119, 1120, 1121, 1122, 1123, 1124, 1125, 1126, 1127, 1128, 1129, 1130, 1164, 1165, 1166] (by decide +kernel) (by decide +kernel)
set_option maxRecDepth 20000 in
theorem ggL_law_L_many : GoodIn wsL_law wsL_many := goodIn_ca (goodIn_r _ [949, 220, 950, 951, 952, 2, 953, 227, 228, 230, 24, 524, 148, 229, 271, 564, 563, 25, 26, 792, 22, 338, 394, 395, 396, 397, 361, 362, 363, 364, 16, 365, 299, 300, 301, 302, 303, 304, 305, 954, 955, 956, 957, 903, 958, 959, 960, 961, 904, 1092, 1093, 1094, 1095, 1096, 1097, 1098, 1099, 1100, 1101, 1102, 1103, 1104, 1105, 1106, 1107, 1108, 1109, 1110, 1131, 1132, 1133, 1134, 1137, 1138, 1139, 1140, 1141, 1142, 1143, 1144, 1145, 1146, 1147] (by decide +kernel) (by decide +kernel)) (goodIn_sub (fun _ h => List.mem_append_right _ h) (by decide +kernel))
set_option maxRecDepth 20000 in
theorem ggL_law_X5_many : GoodIn wsL_law wsX5_many := goodIn_r _ [965, 153, 261, 262, 5, 263, 966, 967, 968, 969, 67, 97, 27, 256, 283, 577, 66, 68, 98, 99, 75, 76, 857, 69, 101, 102, 103, 65, 104, 105, 106, 107, 108, 109, 110, 111, 112, 11, 12, 113, 114, 115, 116, 117, 118, 119, 120, 121, 122, 123, 124, 125, 126, 127, 128, 129, 130, 154, 155, 156, 157, 136, 428, 429, 430, 431, 406, 407, 408, 409, 314, 315, 316, 317, 318, 319, 320, 321, 322, 323, 324, 325, 326, 327, 328, 329, 81, 158, 159, 160, 161, 1111, 1112, 1113, 1114, 1115, 1116, 1117, 1118, 1119, 1120, 1121, 1122, 1123, 1124, 1125, 1126, 1127, 1128, 1129, 1130, 1167, 1168, 1169, 1170, 1164, 1165, 1166] (by decide +kernel) (by decide +kernel)
set_option maxRecDepth 20000 in
theorem ggL_law_X4_meanMark : GoodIn wsL_law wsX4_meanMark := goodIn_r _ [973, 271, 18, 974, 926, 1092, 1093, 1094, 1095, 1096, 1097, 1098, 1099, 1100, 1101, 1102, 1103, 1104, 1105, 1106, 1107, 1108, 1109, 1110, 1148, 1149, 1150, 1151, 1152, 1153, 1154, 1155, 1156, 1157, 1158, 1159, 1160, 1161, 1162, 1163] (by decide +kernel) (by decide +kernel)
set_option maxRecDepth 20000 in
theorem gL_law_X5_ofBook : GoodIn wsL_law (wsV RL 167 RX5 yX5_ofBook wsX5_ofBook) := goodIn_app (goodIn_of _ (by decide +kernel)) ggL_law_X5_ofBook
set_option maxRecDepth 20000 in
theorem gL_law_L_ofJudge : GoodIn wsL_law (va_wsS RL 168 yL_ofJudge wsL_ofJudge) := goodIn_app (goodIn_of _ (by decide +kernel)) ggL_law_L_ofJudge
set_option maxRecDepth 20000 in
theorem gL_law_X5_ofJudge : GoodIn wsL_law (wsV RL 170 RX5 yX5_ofJudge wsX5_ofJudge) := goodIn_app (goodIn_of _ (by decide +kernel)) ggL_law_X5_ofJudge
set_option maxRecDepth 20000 in
theorem gL_law_L_mark : GoodIn wsL_law (va_wsS RL 171 yL_mark wsL_mark) := goodIn_app (goodIn_of _ (by decide +kernel)) ggL_law_L_mark
set_option maxRecDepth 20000 in
theorem gL_law_X5_mark : GoodIn wsL_law (wsV RL 173 RX5 yX5_mark wsX5_mark) := goodIn_app (goodIn_of _ (by decide +kernel)) ggL_law_X5_mark
set_option maxRecDepth 20000 in
theorem gL_law_L_many : GoodIn wsL_law (va_wsS RL 174 yL_many wsL_many) := goodIn_app (goodIn_of _ (by decide +kernel)) ggL_law_L_many
set_option maxRecDepth 20000 in
theorem gL_law_X5_many : GoodIn wsL_law (wsV RL 176 RX5 yX5_many wsX5_many) := goodIn_app (goodIn_of _ (by decide +kernel)) ggL_law_X5_many
set_option maxRecDepth 20000 in
theorem gL_law_X4_meanMark : GoodIn wsL_law (wsV RL 177 RX4 yX4_meanMark wsX4_meanMark) := goodIn_app (goodIn_of _ (by decide +kernel)) ggL_law_X4_meanMark

