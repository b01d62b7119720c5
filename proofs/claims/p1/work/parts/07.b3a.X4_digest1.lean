set_option maxRecDepth 20000 in
theorem gd_X4_digest_h : GoodIn wsL_law ([.code yX4_digest cX4_digest 5 (some .long)] : List Cond) := goodIn_r _ [1068] (by decide +kernel) (by decide +kernel)
set_option maxRecDepth 20000 in
theorem gd_X4_digest_0 : GoodIn wsL_law wsX4_digest_r1 := goodIn_r _ [1069, 1070, 148, 229, 271, 1071, 951, 952, 2, 953, 227, 228, 230, 24, 524, 564, 563, 25, 26, 792, 22, 338, 394, 395] (by decide +kernel) (by decide +kernel)
set_option maxRecDepth 20000 in
theorem gd_X4_digest_1 : GoodIn wsL_law wsX4_digest_r2 := goodIn_r _ [396, 397, 361, 362, 363, 364, 16, 365, 299, 300, 301, 302, 303, 304, 305, 954, 955, 956, 957, 903, 958, 959, 960, 961] (by decide +kernel) (by decide +kernel)
set_option maxRecDepth 20000 in
theorem gd_X4_digest_2 : GoodIn wsL_law wsX4_digest_r3 := goodIn_r _ [904, 1072, 881, 882, 883, 225, 226, 14, 393, 356, 817, 232, 233, 234, 235, 378, 379, 380, 381, 382, 383, 206, 180, 207] (by decide +kernel) (by decide +kernel)
set_option maxRecDepth 20000 in
theorem gd_X4_digest_3 : GoodIn wsL_law wsX4_digest_r4 := goodIn_r _ [384, 385, 386, 387, 355, 388, 376, 377, 884, 885, 886, 887, 296, 297, 298, 1073, 900, 901, 902, 440, 512, 357, 358, 359] (by decide +kernel) (by decide +kernel)
set_option maxRecDepth 20000 in
theorem gd_X4_digest_4 : GoodIn wsL_law wsX4_digest_r5 := goodIn_r _ [360, 366, 367, 368, 369, 231, 370, 371, 372, 373, 374, 21, 375, 38, 39, 40, 240, 241, 905, 906, 907, 908, 657, 658] (by decide +kernel) (by decide +kernel)
set_option maxRecDepth 20000 in
theorem gd_X4_digest_5 : GoodIn wsL_law wsX4_digest_r6 := goodIn_r _ [659, 660, 18, 632, 628, 629, 630, 631, 441, 442, 443, 34, 444, 445, 661, 662, 663, 664, 535, 536, 665, 666, 667, 668] (by decide +kernel) (by decide +kernel)
set_option maxRecDepth 20000 in
theorem gd_X4_digest_6 : GoodIn wsL_law wsX4_digest_r7 := goodIn_r _ [624, 625, 626, 627, 645, 646, 647, 648, 649, 1074, 1022, 1023, 1024, 788, 789, 790, 791, 793, 794, 795, 796, 28, 797, 798] (by decide +kernel) (by decide +kernel)
set_option maxRecDepth 20000 in
theorem gd_X4_digest_7 : GoodIn wsL_law wsX4_digest_r8 := goodIn_r _ [799, 800, 801, 802, 803, 804, 772, 58, 805, 806, 807, 808, 809, 810, 811, 812, 1075, 921, 922, 923, 924, 291, 925, 926] (by decide +kernel) (by decide +kernel)

