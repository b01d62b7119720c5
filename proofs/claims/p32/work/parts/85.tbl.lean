theorem in_r {big : List Cond} (ws : List Cond) (ps : List Nat) (hp : ws = ps.filterMap (fun i => big[i]?)) : ∀ w ∈ ws, w ∈ big := by
  intro w hw
  rw [hp] at hw
  obtain ⟨i, -, hi⟩ := List.mem_filterMap.mp hw
  exact List.mem_of_getElem? hi
set_option maxRecDepth 20000 in
theorem hT_1 : ∀ w ∈ wsL_law0_r1, w ∈ lw_tbl := in_r _ [60, 61, 45, 110, 828, 541, 58, 542, 62, 63, 64, 65, 66, 67, 68, 226, 70, 227, 72, 228, 74, 75, 46, 232] (by decide +kernel)
set_option maxRecDepth 20000 in
theorem hT_2 : ∀ w ∈ wsL_law0_r2, w ∈ lw_tbl := in_r _ [233, 235, 240, 241, 244, 97, 47, 111, 48, 160, 49, 77, 78, 79, 80, 82, 84, 86, 99, 100, 101, 102, 113, 114] (by decide +kernel)
set_option maxRecDepth 20000 in
theorem hT_3 : ∀ w ∈ wsL_law0_r3, w ∈ lw_tbl := in_r _ [115, 129, 161, 162, 163, 164, 173, 174, 183, 187, 189, 821, 822, 44, 823, 824, 817, 818, 819, 820, 284, 285, 286, 287] (by decide +kernel)
set_option maxRecDepth 20000 in
theorem hT_4 : ∀ w ∈ wsL_law0_r4, w ∈ lw_tbl := in_r _ [288, 53, 229, 407, 408, 409, 410, 386, 54, 231, 383, 384, 385, 413, 414, 415, 416, 165, 167, 168, 755, 756, 757, 758] (by decide +kernel)
set_option maxRecDepth 20000 in
theorem hT_5 : ∀ w ∈ wsL_law0_r5, w ∈ lw_tbl := in_r _ [234, 236, 230, 237, 239, 243, 87, 487, 489, 9, 490, 454, 456, 4, 457, 130, 430, 431, 56, 432, 433, 434, 435, 759] (by decide +kernel)
set_option maxRecDepth 20000 in
theorem hT_6 : ∀ w ∈ wsL_law0_r6, w ∈ lw_tbl := in_r _ [761, 40, 762, 134, 763, 765, 41, 766, 136, 356, 357, 358, 359, 364, 57, 128, 360, 362, 1, 363, 380, 381, 382, 403] (by decide +kernel)
set_option maxRecDepth 20000 in
theorem hT_7 : ∀ w ∈ wsL_law0_r7, w ∈ lw_tbl := in_r _ [404, 405, 406, 116, 118, 120, 122, 124, 126, 751, 752, 753, 754, 184, 421, 423, 2, 424, 449, 451, 3, 452, 417, 418] (by decide +kernel)
set_option maxRecDepth 20000 in
theorem hT_8 : ∀ w ∈ wsL_law0_r8, w ∈ lw_tbl := in_r _ [419, 420, 170, 427, 428, 429, 746, 747, 748, 749, 166, 176, 180, 182, 577, 544, 545, 546, 177, 181, 676, 677, 678, 679] (by decide +kernel)
set_option maxRecDepth 20000 in
theorem hT_9 : ∀ w ∈ wsL_law0_r9, w ∈ lw_tbl := in_r _ [191, 639, 640, 641, 642, 845, 436, 437, 438, 439, 441, 442, 443, 444, 737, 738, 739, 740, 117, 119, 132, 459, 461, 5] (by decide +kernel)
set_option maxRecDepth 20000 in
theorem hT_10 : ∀ w ∈ wsL_law0_r10, w ∈ lw_tbl := in_r _ [462, 121, 123, 463, 464, 465, 466, 468, 469, 741, 743, 39, 744, 479, 622, 624, 26, 625, 595, 597, 20, 598, 496, 497] (by decide +kernel)
set_option maxRecDepth 20000 in
theorem hT_11 : ∀ w ∈ wsL_law0_r11, w ∈ lw_tbl := in_r _ [498, 499, 169, 626, 627, 628, 629, 179, 185, 630, 631, 58, 632, 591, 593, 19, 594, 611, 613, 24, 614, 188, 728, 729] (by decide +kernel)
set_option maxRecDepth 20000 in
theorem hT_12 : ∀ w ∈ wsL_law0_r12, w ∈ lw_tbl := in_r _ [730, 731, 103, 104, 242, 471, 473, 6, 474, 238, 480, 481, 482, 475, 477, 7, 478, 732, 734, 38, 735, 445, 446, 447] (by decide +kernel)
set_option maxRecDepth 20000 in
theorem hT_13 : ∀ w ∈ wsL_law0_r13, w ∈ lw_tbl := in_r _ [448, 483, 485, 8, 486, 491, 492, 493, 494, 172, 517, 518, 519, 520, 777, 778, 779, 780, 785, 781, 782, 783, 784, 536] (by decide +kernel)
set_option maxRecDepth 20000 in
theorem hT_14 : ∀ w ∈ wsL_law0_r14, w ∈ lw_tbl := in_r _ [537, 538, 539, 540, 500, 501, 502, 503, 505, 507, 10, 508, 509, 511, 11, 512, 178, 513, 514, 515, 516, 175, 568, 569] (by decide +kernel)
set_option maxRecDepth 20000 in
theorem hT_15 : ∀ w ∈ wsL_law0_r15, w ∈ lw_tbl := in_r _ [570, 571, 573, 575, 15, 576, 579, 581, 16, 582, 583, 585, 17, 586, 587, 589, 18, 590, 599, 601, 21, 602, 603, 605] (by decide +kernel)
set_option maxRecDepth 20000 in
theorem hT_16 : ∀ w ∈ wsL_law0_r16, w ∈ lw_tbl := in_r _ [22, 606, 607, 609, 23, 610, 615, 616, 617, 618, 620, 25, 621, 644, 645, 646, 647, 650, 652, 27, 653, 680, 681, 682] (by decide +kernel)
set_option maxRecDepth 20000 in
theorem hT_17 : ∀ w ∈ wsL_law0_r17, w ∈ lw_tbl := in_r _ [683, 685, 687, 32, 688, 689, 691, 33, 692, 693, 695, 34, 696, 697, 698, 699, 700, 702, 704, 35, 705, 706, 708, 36] (by decide +kernel)
set_option maxRecDepth 20000 in
theorem hT_18 : ∀ w ∈ wsL_law0_r18, w ∈ lw_tbl := in_r _ [709, 710, 712, 37, 713, 719, 720, 721, 722, 81, 83, 85, 724, 725, 726, 727, 171, 768, 769, 770, 771, 633, 634, 635] (by decide +kernel)
set_option maxRecDepth 20000 in
theorem hT_19 : ∀ w ∈ wsL_law0_r19, w ∈ lw_tbl := in_r _ [636, 654, 655, 656, 657, 658, 660, 28, 661, 664, 666, 29, 667, 190, 192, 668, 670, 30, 671, 672, 674, 31, 675, 773] (by decide +kernel)
set_option maxRecDepth 20000 in
theorem hT_20 : ∀ w ∈ wsL_law0_r20, w ∈ lw_tbl := in_r _ [774, 775, 776, 714, 715, 716, 717, 786, 787, 788, 789, 559, 561, 14, 562, 522, 523, 524, 525, 528, 530, 12, 531, 532] (by decide +kernel)
set_option maxRecDepth 20000 in
theorem hT_21 : ∀ w ∈ wsL_law0_r21, w ∈ lw_tbl := in_r _ [533, 534, 535, 547, 543, 548, 549, 550, 551, 125, 127, 552, 553, 554, 555, 557, 13, 558, 563, 564, 565, 566, 131, 567] (by decide +kernel)
set_option maxRecDepth 20000 in
theorem hT_22 : ∀ w ∈ wsL_law0_r22, w ∈ lw_tbl := in_r _ [133, 135, 825, 826, 827, 843, 829, 830, 831, 832, 186, 833, 834, 835, 836, 838, 837, 59, 839, 840, 842, 841, 844, 804] (by decide +kernel)
set_option maxRecDepth 20000 in
theorem hT_23 : ∀ w ∈ wsL_law0_r23, w ∈ lw_tbl := in_r _ [805, 806, 807, 809, 42, 810, 811, 813, 43, 814, 790, 791, 792, 793, 794, 795, 796, 797, 798, 799, 800, 801, 802, 803] (by decide +kernel)
set_option maxRecDepth 20000 in
theorem hT_24 : ∀ w ∈ wsL_law0_r24, w ∈ lw_tbl := in_r _ [815, 816] (by decide +kernel)
set_option maxRecDepth 20000 in
theorem hT_wsX40 : ∀ w ∈ wsX40, w ∈ lw_tbl := in_r _ [245, 247, 249, 251, 253, 255, 257, 259, 261, 263, 265, 267, 269, 271, 273, 275, 277, 279, 281] (by decide +kernel)
set_option maxRecDepth 20000 in
theorem hT_wsX30 : ∀ w ∈ wsX30, w ∈ lw_tbl := in_r _ [88, 90, 92, 94] (by decide +kernel)
set_option maxRecDepth 20000 in
theorem hT_wsX10 : ∀ w ∈ wsX10, w ∈ lw_tbl := in_r _ [105, 107] (by decide +kernel)
set_option maxRecDepth 20000 in
theorem hT_wsX00 : ∀ w ∈ wsX00, w ∈ lw_tbl := in_r _ [137, 139, 141, 143, 145, 147, 149, 151, 153, 155, 157] (by decide +kernel)
set_option maxRecDepth 20000 in
theorem hT_wsX20 : ∀ w ∈ wsX20, w ∈ lw_tbl := in_r _ [193, 195, 197, 199, 201, 203, 205, 207, 209, 211, 213, 215, 217, 219, 221, 223] (by decide +kernel)
theorem wsL_law_in0 : ∀ w ∈ wsL_law0, w ∈ lw_tbl := fun w h => (List.mem_append.mp h).elim (fun h => (List.mem_append.mp h).elim (fun h => (List.mem_append.mp h).elim (fun h => (List.mem_append.mp h).elim (fun h => (List.mem_append.mp h).elim (fun h => (List.mem_append.mp h).elim (fun h => (List.mem_append.mp h).elim (fun h => hT_1 w h) (fun h => (List.mem_append.mp h).elim (fun h => hT_2 w h) (fun h => (List.mem_append.mp h).elim (fun h => hT_3 w h) (fun h => (List.mem_append.mp h).elim (fun h => hT_4 w h) (fun h => (List.mem_append.mp h).elim (fun h => hT_5 w h) (fun h => (List.mem_append.mp h).elim (fun h => hT_6 w h) (fun h => (List.mem_append.mp h).elim (fun h => hT_7 w h) (fun h => (List.mem_append.mp h).elim (fun h => hT_8 w h) (fun h => (List.mem_append.mp h).elim (fun h => hT_9 w h) (fun h => (List.mem_append.mp h).elim (fun h => hT_10 w h) (fun h => (List.mem_append.mp h).elim (fun h => hT_11 w h) (fun h => (List.mem_append.mp h).elim (fun h => hT_12 w h) (fun h => (List.mem_append.mp h).elim (fun h => hT_13 w h) (fun h => (List.mem_append.mp h).elim (fun h => hT_14 w h) (fun h => (List.mem_append.mp h).elim (fun h => hT_15 w h) (fun h => (List.mem_append.mp h).elim (fun h => hT_16 w h) (fun h => (List.mem_append.mp h).elim (fun h => hT_17 w h) (fun h => (List.mem_append.mp h).elim (fun h => hT_18 w h) (fun h => (List.mem_append.mp h).elim (fun h => hT_19 w h) (fun h => (List.mem_append.mp h).elim (fun h => hT_20 w h) (fun h => (List.mem_append.mp h).elim (fun h => hT_21 w h) (fun h => (List.mem_append.mp h).elim (fun h => hT_22 w h) (fun h => (List.mem_append.mp h).elim (fun h => hT_23 w h) (fun h => hT_24 w h)))))))))))))))))))))))) (fun h => hT_wsX40 w h)) (fun h => hT_wsX30 w h)) (fun h => hT_wsX10 w h)) (fun h => hT_wsX00 w h)) (fun h => hT_wsX20 w h)) (fun h => absurd h List.not_mem_nil)
