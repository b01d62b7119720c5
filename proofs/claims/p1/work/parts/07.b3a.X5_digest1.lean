set_option maxRecDepth 20000 in
theorem gd_X5_digest_h : GoodIn wsL_law ([.code yX5_digest cX5_digest 3 (some .long)] : List Cond) := goodIn_r _ [1084] (by decide +kernel) (by decide +kernel)
set_option maxRecDepth 20000 in
theorem gd_X5_digest_0 : GoodIn wsL_law wsX5_digest_r1 := goodIn_r _ [153, 1085, 1086, 66, 67, 68, 73, 966, 967, 968, 5, 969, 97, 27, 256, 283, 577, 98, 99, 75, 76, 857, 69, 101] (by decide +kernel) (by decide +kernel)
set_option maxRecDepth 20000 in
theorem gd_X5_digest_1 : GoodIn wsL_law wsX5_digest_r2 := goodIn_r _ [102, 103, 65, 104, 105, 106, 107, 108, 109, 110, 111, 112, 11, 12, 113, 114, 115, 116, 117, 118, 119, 120, 121, 122] (by decide +kernel) (by decide +kernel)
set_option maxRecDepth 20000 in
theorem gd_X5_digest_2 : GoodIn wsL_law wsX5_digest_r3 := goodIn_r _ [123, 124, 125, 126, 127, 128, 129, 130, 154, 155, 156, 157, 136, 428, 429, 430, 431, 406, 407, 408, 409, 314, 315, 316] (by decide +kernel) (by decide +kernel)
set_option maxRecDepth 20000 in
theorem gd_X5_digest_3 : GoodIn wsL_law wsX5_digest_r4 := goodIn_r _ [317, 318, 319, 320, 321, 322, 323, 324, 325, 326, 327, 328, 329, 81, 1087, 1088, 1089, 1090, 1091, 892, 893, 894, 895, 418] (by decide +kernel) (by decide +kernel)
set_option maxRecDepth 20000 in
theorem gd_X5_digest_4 : GoodIn wsL_law wsX5_digest_r5 := goodIn_r _ [419, 420, 421, 422, 423, 206, 180, 207, 913, 914, 915, 916, 410, 411, 412, 413, 261, 262, 263, 689, 690, 691, 692, 681] (by decide +kernel) (by decide +kernel)
set_option maxRecDepth 20000 in
theorem gd_X5_digest_5 : GoodIn wsL_law wsX5_digest_r6 := goodIn_r _ [682, 683, 684, 450, 451, 452, 453, 693, 694, 695, 696, 677, 678, 679, 680, 697, 666, 667, 668, 736, 737, 738, 739, 74] (by decide +kernel) (by decide +kernel)
set_option maxRecDepth 20000 in
theorem gd_X5_digest_6 : GoodIn wsL_law wsX5_digest_r7 := goodIn_r _ [740, 741, 301, 742, 1029, 1030, 1031, 1032, 990, 991, 992, 993, 100, 826, 827, 828, 829, 330, 300, 302, 303, 304, 305, 830] (by decide +kernel) (by decide +kernel)

