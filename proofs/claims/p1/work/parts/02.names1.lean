set_option maxRecDepth 20000 in
theorem lwr_1 : ∀ w ∈ wsL_law0_r1, w ∈ lw_tbl := fun w h => (goodIn_p wsL_law0_r1 [121, 124] (by decide +kernel) (by decide +kernel) w h).1
set_option maxRecDepth 20000 in
theorem lwr_2 : ∀ w ∈ wsL_law0_r2, w ∈ lw_tbl := fun w h => (goodIn_p wsL_law0_r2 [135, 157, 171] (by decide +kernel) (by decide +kernel) w h).1
set_option maxRecDepth 20000 in
theorem lwr_3 : ∀ w ∈ wsL_law0_r3, w ∈ lw_tbl := fun w h => (goodIn_p wsL_law0_r3 [220, 961] (by decide +kernel) (by decide +kernel) w h).1
set_option maxRecDepth 20000 in
theorem lwr_4 : ∀ w ∈ wsL_law0_r4, w ∈ lw_tbl := fun w h => (goodIn_p wsL_law0_r4 [967, 970, 973, 997] (by decide +kernel) (by decide +kernel) w h).1
set_option maxRecDepth 20000 in
theorem lwr_5 : ∀ w ∈ wsL_law0_r5, w ∈ lw_tbl := fun w h => (goodIn_p wsL_law0_r5 [1001, 1006] (by decide +kernel) (by decide +kernel) w h).1
set_option maxRecDepth 20000 in
theorem lwr_6 : ∀ w ∈ wsL_law0_r6, w ∈ lw_tbl := fun w h => (goodIn_p wsL_law0_r6 [1030, 1039, 1043, 1047] (by decide +kernel) (by decide +kernel) w h).1
set_option maxRecDepth 20000 in
theorem lwr_7 : ∀ w ∈ wsL_law0_r7, w ∈ lw_tbl := fun w h => (goodIn_p wsL_law0_r7 [652, 1117, 1121, 1125, 1129] (by decide +kernel) (by decide +kernel) w h).1
set_option maxRecDepth 20000 in
theorem lwr_8 : ∀ w ∈ wsL_law0_r8, w ∈ lw_tbl := fun w h => (goodIn_p wsL_law0_r8 [1133, 1137, 1141, 394, 1144, 1149] (by decide +kernel) (by decide +kernel) w h).1
set_option maxRecDepth 20000 in
theorem lwr_9 : ∀ w ∈ wsL_law0_r9, w ∈ lw_tbl := fun w h => (goodIn_p wsL_law0_r9 [1152, 1171, 530, 1113] (by decide +kernel) (by decide +kernel) w h).1
set_option maxRecDepth 20000 in
theorem lwr_10 : ∀ w ∈ wsL_law0_r10, w ∈ lw_tbl := fun w h => (goodIn_p wsL_law0_r10 [677, 503, 680] (by decide +kernel) (by decide +kernel) w h).1
set_option maxRecDepth 20000 in
theorem lwr_11 : ∀ w ∈ wsL_law0_r11, w ∈ lw_tbl := fun w h => (goodIn_p wsL_law0_r11 [556, 686, 1184, 1188, 1191] (by decide +kernel) (by decide +kernel) w h).1
set_option maxRecDepth 20000 in
theorem lwr_12 : ∀ w ∈ wsL_law0_r12, w ∈ lw_tbl := fun w h => (goodIn_p wsL_law0_r12 [693, 699, 1195] (by decide +kernel) (by decide +kernel) w h).1
set_option maxRecDepth 20000 in
theorem lwr_13 : ∀ w ∈ wsL_law0_r13, w ∈ lw_tbl := fun w h => (goodIn_p wsL_law0_r13 [706, 612, 362, 416, 1199] (by decide +kernel) (by decide +kernel) w h).1
set_option maxRecDepth 20000 in
theorem lwr_14 : ∀ w ∈ wsL_law0_r14, w ∈ lw_tbl := fun w h => (goodIn_p wsL_law0_r14 [1203, 1207, 1210, 1213, 1217] (by decide +kernel) (by decide +kernel) w h).1
set_option maxRecDepth 20000 in
theorem lwr_15 : ∀ w ∈ wsL_law0_r15, w ∈ lw_tbl := fun w h => (goodIn_p wsL_law0_r15 [714, 719, 1222, 726] (by decide +kernel) (by decide +kernel) w h).1
set_option maxRecDepth 20000 in
theorem lwr_16 : ∀ w ∈ wsL_law0_r16, w ∈ lw_tbl := fun w h => (goodIn_p wsL_law0_r16 [543, 413, 548, 552, 351, 523] (by decide +kernel) (by decide +kernel) w h).1
set_option maxRecDepth 20000 in
theorem lwr_17 : ∀ w ∈ wsL_law0_r17, w ∈ lw_tbl := fun w h => (goodIn_p wsL_law0_r17 [527, 731, 409, 1227, 1231] (by decide +kernel) (by decide +kernel) w h).1
set_option maxRecDepth 20000 in
theorem lwr_18 : ∀ w ∈ wsL_law0_r18, w ∈ lw_tbl := fun w h => (goodIn_p wsL_law0_r18 [1235, 1239, 1243, 1247, 1252, 1256] (by decide +kernel) (by decide +kernel) w h).1
set_option maxRecDepth 20000 in
theorem lwr_19 : ∀ w ∈ wsL_law0_r19, w ∈ lw_tbl := fun w h => (goodIn_p wsL_law0_r19 [738, 374, 1260, 1264] (by decide +kernel) (by decide +kernel) w h).1
set_option maxRecDepth 20000 in
theorem lwr_20 : ∀ w ∈ wsL_law0_r20, w ∈ lw_tbl := fun w h => (goodIn_p wsL_law0_r20 [745, 750, 754, 758, 1268] (by decide +kernel) (by decide +kernel) w h).1
set_option maxRecDepth 20000 in
theorem lwr_21 : ∀ w ∈ wsL_law0_r21, w ∈ lw_tbl := fun w h => (goodIn_p wsL_law0_r21 [1272, 1277, 1280, 1289, 1292] (by decide +kernel) (by decide +kernel) w h).1
set_option maxRecDepth 20000 in
theorem lwr_22 : ∀ w ∈ wsL_law0_r22, w ∈ lw_tbl := fun w h => (goodIn_p wsL_law0_r22 [765, 1301, 773] (by decide +kernel) (by decide +kernel) w h).1
set_option maxRecDepth 20000 in
theorem lwr_23 : ∀ w ∈ wsL_law0_r23, w ∈ lw_tbl := fun w h => (goodIn_p wsL_law0_r23 [778, 782, 391, 617, 788] (by decide +kernel) (by decide +kernel) w h).1
set_option maxRecDepth 20000 in
theorem lwr_24 : ∀ w ∈ wsL_law0_r24, w ∈ lw_tbl := fun w h => (goodIn_p wsL_law0_r24 [791, 795, 644, 799] (by decide +kernel) (by decide +kernel) w h).1
set_option maxRecDepth 20000 in
theorem lwr_25 : ∀ w ∈ wsL_law0_r25, w ∈ lw_tbl := fun w h => (goodIn_p wsL_law0_r25 [1305, 1309, 1313, 1317, 1323, 1327] (by decide +kernel) (by decide +kernel) w h).1
set_option maxRecDepth 20000 in
theorem lwr_26 : ∀ w ∈ wsL_law0_r26, w ∈ lw_tbl := fun w h => (goodIn_p wsL_law0_r26 [807, 812, 817, 821, 825] (by decide +kernel) (by decide +kernel) w h).1
set_option maxRecDepth 20000 in
theorem lwr_27 : ∀ w ∈ wsL_law0_r27, w ∈ lw_tbl := fun w h => (goodIn_p wsL_law0_r27 [579, 568, 829, 833, 837] (by decide +kernel) (by decide +kernel) w h).1
set_option maxRecDepth 20000 in
theorem lwr_28 : ∀ w ∈ wsL_law0_r28, w ∈ lw_tbl := fun w h => (goodIn_p wsL_law0_r28 [583, 840, 844, 564, 572, 575] (by decide +kernel) (by decide +kernel) w h).1
set_option maxRecDepth 20000 in
theorem lwr_29 : ∀ w ∈ wsL_law0_r29, w ∈ lw_tbl := fun w h => (goodIn_p wsL_law0_r29 [1331, 1335, 1339, 1343, 1347, 1351] (by decide +kernel) (by decide +kernel) w h).1
set_option maxRecDepth 20000 in
theorem lwr_30 : ∀ w ∈ wsL_law0_r30, w ∈ lw_tbl := fun w h => (goodIn_p wsL_law0_r30 [1355, 851, 621, 1360, 1364] (by decide +kernel) (by decide +kernel) w h).1
set_option maxRecDepth 20000 in
theorem lwr_31 : ∀ w ∈ wsL_law0_r31, w ∈ lw_tbl := fun w h => (goodIn_p wsL_law0_r31 [861, 867, 1368, 1372, 1376, 1379] (by decide +kernel) (by decide +kernel) w h).1
set_option maxRecDepth 20000 in
theorem lwr_32 : ∀ w ∈ wsL_law0_r32, w ∈ lw_tbl := fun w h => (goodIn_p wsL_law0_r32 [874, 878, 884, 888, 892] (by decide +kernel) (by decide +kernel) w h).1
set_option maxRecDepth 20000 in
theorem lwr_33 : ∀ w ∈ wsL_law0_r33, w ∈ lw_tbl := fun w h => (goodIn_p wsL_law0_r33 [366, 1383, 1387, 899, 592] (by decide +kernel) (by decide +kernel) w h).1
set_option maxRecDepth 20000 in
theorem lwr_34 : ∀ w ∈ wsL_law0_r34, w ∈ lw_tbl := fun w h => (goodIn_p wsL_law0_r34 [596, 370, 378, 600, 604] (by decide +kernel) (by decide +kernel) w h).1
set_option maxRecDepth 20000 in
theorem lwr_35 : ∀ w ∈ wsL_law0_r35, w ∈ lw_tbl := fun w h => (goodIn_p wsL_law0_r35 [904, 1391, 1395, 1399, 1403, 1407] (by decide +kernel) (by decide +kernel) w h).1
set_option maxRecDepth 20000 in
theorem lwr_36 : ∀ w ∈ wsL_law0_r36, w ∈ lw_tbl := fun w h => (goodIn_p wsL_law0_r36 [1411, 1414, 911, 1419] (by decide +kernel) (by decide +kernel) w h).1
set_option maxRecDepth 20000 in
theorem lwr_37 : ∀ w ∈ wsL_law0_r37, w ∈ lw_tbl := fun w h => (goodIn_p wsL_law0_r37 [919, 924, 1423, 499, 534] (by decide +kernel) (by decide +kernel) w h).1
set_option maxRecDepth 20000 in
theorem lwr_38 : ∀ w ∈ wsL_law0_r38, w ∈ lw_tbl := fun w h => (goodIn_p wsL_law0_r38 [1427, 1431, 539, 560] (by decide +kernel) (by decide +kernel) w h).1
set_option maxRecDepth 20000 in
theorem lwr_39 : ∀ w ∈ wsL_law0_r39, w ∈ lw_tbl := fun w h => (goodIn_p wsL_law0_r39 [1435, 1439, 608, 1443, 1447] (by decide +kernel) (by decide +kernel) w h).1
set_option maxRecDepth 20000 in
theorem lwr_40 : ∀ w ∈ wsL_law0_r40, w ∈ lw_tbl := fun w h => (goodIn_p wsL_law0_r40 [626, 1451, 405, 423] (by decide +kernel) (by decide +kernel) w h).1
set_option maxRecDepth 20000 in
theorem lwr_41 : ∀ w ∈ wsL_law0_r41, w ∈ lw_tbl := fun w h => (goodIn_p wsL_law0_r41 [427, 1455, 1459, 344, 1463] (by decide +kernel) (by decide +kernel) w h).1
set_option maxRecDepth 20000 in
theorem lwr_42 : ∀ w ∈ wsL_law0_r42, w ∈ lw_tbl := fun w h => (goodIn_p wsL_law0_r42 [631, 1467, 1471, 348, 355, 359] (by decide +kernel) (by decide +kernel) w h).1
set_option maxRecDepth 20000 in
theorem lwr_43 : ∀ w ∈ wsL_law0_r43, w ∈ lw_tbl := fun w h => (goodIn_p wsL_law0_r43 [1475, 1479, 1483, 588, 1487] (by decide +kernel) (by decide +kernel) w h).1
set_option maxRecDepth 20000 in
theorem lwr_44 : ∀ w ∈ wsL_law0_r44, w ∈ lw_tbl := fun w h => (goodIn_p wsL_law0_r44 [1491, 383, 387, 1495, 1499] (by decide +kernel) (by decide +kernel) w h).1
set_option maxRecDepth 20000 in
theorem lwr_45 : ∀ w ∈ wsL_law0_r45, w ∈ lw_tbl := fun w h => (goodIn_p wsL_law0_r45 [639, 1503, 1507, 399] (by decide +kernel) (by decide +kernel) w h).1
set_option maxRecDepth 20000 in
theorem lwr_46 : ∀ w ∈ wsL_law0_r46, w ∈ lw_tbl := fun w h => (goodIn_p wsL_law0_r46 [1511, 1516] (by decide +kernel) (by decide +kernel) w h).1
set_option maxRecDepth 20000 in
theorem lwf_X4 : ∀ w ∈ wsX40, w ∈ lw_tbl := by decide +kernel
set_option maxRecDepth 20000 in
theorem lwf_X5 : ∀ w ∈ wsX50, w ∈ lw_tbl := by decide +kernel
set_option maxRecDepth 20000 in
theorem lwf_X3 : ∀ w ∈ wsX30, w ∈ lw_tbl := by decide +kernel
set_option maxRecDepth 20000 in
theorem lwf_X1 : ∀ w ∈ wsX10, w ∈ lw_tbl := by decide +kernel
set_option maxRecDepth 20000 in
theorem lwf_X0 : ∀ w ∈ wsX00, w ∈ lw_tbl := by decide +kernel
set_option maxRecDepth 20000 in
theorem lwf_X2 : ∀ w ∈ wsX20, w ∈ lw_tbl := by decide +kernel
set_option maxRecDepth 20000 in
theorem lwf_Jx4a65c : ∀ w ∈ wsJx4a65c0, w ∈ lw_tbl := by decide +kernel
set_option maxRecDepth 20000 in
theorem lwf_Jx35411 : ∀ w ∈ wsJx354110, w ∈ lw_tbl := by decide +kernel
set_option maxRecDepth 20000 in
theorem lwf_J6 : ∀ w ∈ wsJ60, w ∈ lw_tbl := by decide +kernel
theorem wsL_law_in0 : ∀ w ∈ wsL_law0, w ∈ lw_tbl := by
  unfold wsL_law0
  refine List.forall_mem_append.mpr ⟨?_, fun _ h => absurd h List.not_mem_nil⟩
  refine List.forall_mem_append.mpr ⟨?_, lwf_J6⟩
  refine List.forall_mem_append.mpr ⟨?_, lwf_Jx35411⟩
  refine List.forall_mem_append.mpr ⟨?_, lwf_Jx4a65c⟩
  refine List.forall_mem_append.mpr ⟨?_, lwf_X2⟩
  refine List.forall_mem_append.mpr ⟨?_, lwf_X0⟩
  refine List.forall_mem_append.mpr ⟨?_, lwf_X1⟩
  refine List.forall_mem_append.mpr ⟨?_, lwf_X3⟩
  refine List.forall_mem_append.mpr ⟨?_, lwf_X5⟩
  refine List.forall_mem_append.mpr ⟨?_, lwf_X4⟩
  refine List.forall_mem_append.mpr ⟨lwr_1, ?_⟩
  refine List.forall_mem_append.mpr ⟨lwr_2, ?_⟩
  refine List.forall_mem_append.mpr ⟨lwr_3, ?_⟩
  refine List.forall_mem_append.mpr ⟨lwr_4, ?_⟩
  refine List.forall_mem_append.mpr ⟨lwr_5, ?_⟩
  refine List.forall_mem_append.mpr ⟨lwr_6, ?_⟩
  refine List.forall_mem_append.mpr ⟨lwr_7, ?_⟩
  refine List.forall_mem_append.mpr ⟨lwr_8, ?_⟩
  refine List.forall_mem_append.mpr ⟨lwr_9, ?_⟩
  refine List.forall_mem_append.mpr ⟨lwr_10, ?_⟩
  refine List.forall_mem_append.mpr ⟨lwr_11, ?_⟩
  refine List.forall_mem_append.mpr ⟨lwr_12, ?_⟩
  refine List.forall_mem_append.mpr ⟨lwr_13, ?_⟩
  refine List.forall_mem_append.mpr ⟨lwr_14, ?_⟩
  refine List.forall_mem_append.mpr ⟨lwr_15, ?_⟩
  refine List.forall_mem_append.mpr ⟨lwr_16, ?_⟩
  refine List.forall_mem_append.mpr ⟨lwr_17, ?_⟩
  refine List.forall_mem_append.mpr ⟨lwr_18, ?_⟩
  refine List.forall_mem_append.mpr ⟨lwr_19, ?_⟩
  refine List.forall_mem_append.mpr ⟨lwr_20, ?_⟩
  refine List.forall_mem_append.mpr ⟨lwr_21, ?_⟩
  refine List.forall_mem_append.mpr ⟨lwr_22, ?_⟩
  refine List.forall_mem_append.mpr ⟨lwr_23, ?_⟩
  refine List.forall_mem_append.mpr ⟨lwr_24, ?_⟩
  refine List.forall_mem_append.mpr ⟨lwr_25, ?_⟩
  refine List.forall_mem_append.mpr ⟨lwr_26, ?_⟩
  refine List.forall_mem_append.mpr ⟨lwr_27, ?_⟩
  refine List.forall_mem_append.mpr ⟨lwr_28, ?_⟩
  refine List.forall_mem_append.mpr ⟨lwr_29, ?_⟩
  refine List.forall_mem_append.mpr ⟨lwr_30, ?_⟩
  refine List.forall_mem_append.mpr ⟨lwr_31, ?_⟩
  refine List.forall_mem_append.mpr ⟨lwr_32, ?_⟩
  refine List.forall_mem_append.mpr ⟨lwr_33, ?_⟩
  refine List.forall_mem_append.mpr ⟨lwr_34, ?_⟩
  refine List.forall_mem_append.mpr ⟨lwr_35, ?_⟩
  refine List.forall_mem_append.mpr ⟨lwr_36, ?_⟩
  refine List.forall_mem_append.mpr ⟨lwr_37, ?_⟩
  refine List.forall_mem_append.mpr ⟨lwr_38, ?_⟩
  refine List.forall_mem_append.mpr ⟨lwr_39, ?_⟩
  refine List.forall_mem_append.mpr ⟨lwr_40, ?_⟩
  refine List.forall_mem_append.mpr ⟨lwr_41, ?_⟩
  refine List.forall_mem_append.mpr ⟨lwr_42, ?_⟩
  refine List.forall_mem_append.mpr ⟨lwr_43, ?_⟩
  refine List.forall_mem_append.mpr ⟨lwr_44, ?_⟩
  refine List.forall_mem_append.mpr ⟨lwr_45, ?_⟩
  exact lwr_46

