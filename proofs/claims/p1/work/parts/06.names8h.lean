set_option maxRecDepth 20000 in
theorem ggL_law_X5_readIn : GoodIn wsL_law wsX5_readIn := goodIn_r _ [1045, 153, 1046, 1047, 1048, 5, 1049, 283, 68, 97, 583, 179, 180, 181, 154, 155, 156, 65, 157, 136, 314, 315, 316, 317, 318, 319, 320, 321, 322, 323, 324, 325, 326, 327, 328, 329, 81, 480, 481, 482, 483, 71, 96, 484, 67, 101, 102, 103, 104, 105, 106, 107, 108, 109, 110, 111, 112, 11, 12, 113, 114, 115, 116, 117, 118, 119, 120, 121, 122, 123, 124, 125, 126, 127, 128, 129, 130, 485, 486, 487, 301, 488, 489, 588, 589, 590, 591, 423, 206, 207, 1111, 1112, 1113, 1114, 1115, 1116, 1117, 1118, 1119, 1120, 1121, 1122, 1123, 1124, 1125, 1126, 1127, 1128, 1129, 1130, 1164, 1165, 1166, 1167, 1168, 1169, 1170, 1171] (by decide +kernel) (by decide +kernel)
set_option maxRecDepth 20000 in
theorem ggL_law_L_wouldMiss : GoodIn wsL_law wsL_wouldMiss := goodIn_ca (goodIn_r _ [1052, 220, 1053, 1054, 1055, 2, 1056, 227, 228, 229, 16, 512, 1037, 179, 180, 181, 239, 240, 241, 559, 560, 561, 562, 25, 26, 563, 564, 388, 376, 377, 1092, 1093, 1094, 1095, 1096, 1097, 1098, 1099, 1100, 1101, 1102, 1103, 1104, 1105, 1106, 1107, 1108, 1109, 1110, 1137, 1138, 1139, 1140, 1141, 1142, 1143, 1144, 1145, 1146, 1147] (by decide +kernel) (by decide +kernel)) (goodIn_sub (fun _ h => List.mem_append_right _ h) (by decide +kernel))
set_option maxRecDepth 20000 in
theorem ggL_law_X5_wouldMiss : GoodIn wsL_law wsX5_wouldMiss := goodIn_r _ [1060, 153, 261, 262, 5, 263, 1061, 1062, 1063, 1064, 67, 97, 583, 179, 180, 181, 154, 155, 156, 65, 157, 136, 596, 597, 598, 599, 75, 76, 99, 98, 314, 315, 316, 317, 318, 319, 320, 321, 322, 323, 324, 325, 326, 327, 328, 329, 81, 158, 159, 160, 161, 1111, 1112, 1113, 1114, 1115, 1116, 1117, 1118, 1119, 1120, 1121, 1122, 1123, 1124, 1125, 1126, 1127, 1128, 1129, 1130, 1164, 1165, 1166] (by decide +kernel) (by decide +kernel)
set_option maxRecDepth 20000 in
theorem gL_law_X5_readIn : GoodIn wsL_law (wsV RL 195 RX5 yX5_readIn wsX5_readIn) := goodIn_app (goodIn_of _ (by decide +kernel)) ggL_law_X5_readIn
set_option maxRecDepth 20000 in
theorem gL_law_L_wouldMiss : GoodIn wsL_law (va_wsS RL 196 yL_wouldMiss wsL_wouldMiss) := goodIn_app (goodIn_of _ (by decide +kernel)) ggL_law_L_wouldMiss
set_option maxRecDepth 20000 in
theorem gL_law_X5_wouldMiss : GoodIn wsL_law (wsV RL 198 RX5 yX5_wouldMiss wsX5_wouldMiss) := goodIn_app (goodIn_of _ (by decide +kernel)) ggL_law_X5_wouldMiss

