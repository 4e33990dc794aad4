set_option maxRecDepth 20000 in
theorem wsL_in_r1 : ∀ w ∈ wsL_law_0_r1, w ∈ lw_tbl := fun w h => (goodIn_p wsL_law_0_r1 [136, 139] (by decide +kernel) (by decide +kernel) w h).1
set_option maxRecDepth 20000 in
theorem wsL_in_r2 : ∀ w ∈ wsL_law_0_r2, w ∈ lw_tbl := fun w h => (goodIn_p wsL_law_0_r2 [144, 150] (by decide +kernel) (by decide +kernel) w h).1
set_option maxRecDepth 20000 in
theorem wsL_in_r3 : ∀ w ∈ wsL_law_0_r3, w ∈ lw_tbl := fun w h => (goodIn_p wsL_law_0_r3 [198, 213, 216, 265] (by decide +kernel) (by decide +kernel) w h).1
set_option maxRecDepth 20000 in
theorem wsL_in_r4 : ∀ w ∈ wsL_law_0_r4, w ∈ lw_tbl := fun w h => (goodIn_p wsL_law_0_r4 [285, 981, 547] (by decide +kernel) (by decide +kernel) w h).1
set_option maxRecDepth 20000 in
theorem wsL_in_r5 : ∀ w ∈ wsL_law_0_r5, w ∈ lw_tbl := fun w h => (goodIn_p wsL_law_0_r5 [385, 551, 622, 318, 322, 326] (by decide +kernel) (by decide +kernel) w h).1
set_option maxRecDepth 20000 in
theorem wsL_in_r6 : ∀ w ∈ wsL_law_0_r6, w ∈ lw_tbl := fun w h => (goodIn_p wsL_law_0_r6 [330, 335, 642, 646, 353] (by decide +kernel) (by decide +kernel) w h).1
set_option maxRecDepth 20000 in
theorem wsL_in_r7 : ∀ w ∈ wsL_law_0_r7, w ∈ lw_tbl := fun w h => (goodIn_p wsL_law_0_r7 [1027, 1030, 1034, 1038, 1042, 1046] (by decide +kernel) (by decide +kernel) w h).1
set_option maxRecDepth 20000 in
theorem wsL_in_r8 : ∀ w ∈ wsL_law_0_r8, w ∈ lw_tbl := fun w h => (goodIn_p wsL_law_0_r8 [1023, 654, 658, 662, 682] (by decide +kernel) (by decide +kernel) w h).1
set_option maxRecDepth 20000 in
theorem wsL_in_r9 : ∀ w ∈ wsL_law_0_r9, w ∈ lw_tbl := fun w h => (goodIn_p wsL_law_0_r9 [419, 346, 450, 467, 471, 686, 690, 694] (by decide +kernel) (by decide +kernel) w h).1
set_option maxRecDepth 20000 in
theorem wsL_in_r10 : ∀ w ∈ wsL_law_0_r10, w ∈ lw_tbl := fun w h => (goodIn_p wsL_law_0_r10 [697, 701, 1050, 1054, 1058, 1062] (by decide +kernel) (by decide +kernel) w h).1
set_option maxRecDepth 20000 in
theorem wsL_in_r11 : ∀ w ∈ wsL_law_0_r11, w ∈ lw_tbl := fun w h => (goodIn_p wsL_law_0_r11 [1066, 1070, 1074, 709, 713, 1078] (by decide +kernel) (by decide +kernel) w h).1
set_option maxRecDepth 20000 in
theorem wsL_in_r12 : ∀ w ∈ wsL_law_0_r12, w ∈ lw_tbl := fun w h => (goodIn_p wsL_law_0_r12 [1081, 721, 725, 729, 1085] (by decide +kernel) (by decide +kernel) w h).1
set_option maxRecDepth 20000 in
theorem wsL_in_r13 : ∀ w ∈ wsL_law_0_r13, w ∈ lw_tbl := fun w h => (goodIn_p wsL_law_0_r13 [1089, 1093, 1097, 736, 740, 744] (by decide +kernel) (by decide +kernel) w h).1
set_option maxRecDepth 20000 in
theorem wsL_in_r14 : ∀ w ∈ wsL_law_0_r14, w ∈ lw_tbl := fun w h => (goodIn_p wsL_law_0_r14 [1101, 1105, 751, 480, 755, 759] (by decide +kernel) (by decide +kernel) w h).1
set_option maxRecDepth 20000 in
theorem wsL_in_r15 : ∀ w ∈ wsL_law_0_r15, w ∈ lw_tbl := fun w h => (goodIn_p wsL_law_0_r15 [1109, 1113, 1117, 1121, 766] (by decide +kernel) (by decide +kernel) w h).1
set_option maxRecDepth 20000 in
theorem wsL_in_r16 : ∀ w ∈ wsL_law_0_r16, w ∈ lw_tbl := fun w h => (goodIn_p wsL_law_0_r16 [770, 1125, 1129, 777, 780, 783] (by decide +kernel) (by decide +kernel) w h).1
set_option maxRecDepth 20000 in
theorem wsL_in_r17 : ∀ w ∈ wsL_law_0_r17, w ∈ lw_tbl := fun w h => (goodIn_p wsL_law_0_r17 [484, 788, 1133, 1136, 1140, 1144] (by decide +kernel) (by decide +kernel) w h).1
set_option maxRecDepth 20000 in
theorem wsL_in_r18 : ∀ w ∈ wsL_law_0_r18, w ∈ lw_tbl := fun w h => (goodIn_p wsL_law_0_r18 [795, 799, 803, 527, 493, 357, 497] (by decide +kernel) (by decide +kernel) w h).1
set_option maxRecDepth 20000 in
theorem wsL_in_r19 : ∀ w ∈ wsL_law_0_r19, w ∈ lw_tbl := fun w h => (goodIn_p wsL_law_0_r19 [415, 424, 505, 514, 509, 809] (by decide +kernel) (by decide +kernel) w h).1
set_option maxRecDepth 20000 in
theorem wsL_in_r20 : ∀ w ∈ wsL_law_0_r20, w ∈ lw_tbl := fun w h => (goodIn_p wsL_law_0_r20 [1148, 1152, 1156, 1160, 1164, 314] (by decide +kernel) (by decide +kernel) w h).1
set_option maxRecDepth 20000 in
theorem wsL_in_r21 : ∀ w ∈ wsL_law_0_r21, w ∈ lw_tbl := fun w h => (goodIn_p wsL_law_0_r21 [340, 343, 350, 361, 1168, 1172] (by decide +kernel) (by decide +kernel) w h).1
set_option maxRecDepth 20000 in
theorem wsL_in_r22 : ∀ w ∈ wsL_law_0_r22, w ∈ lw_tbl := fun w h => (goodIn_p wsL_law_0_r22 [816, 1176, 1179, 828, 832] (by decide +kernel) (by decide +kernel) w h).1
set_option maxRecDepth 20000 in
theorem wsL_in_r23 : ∀ w ∈ wsL_law_0_r23, w ∈ lw_tbl := fun w h => (goodIn_p wsL_law_0_r23 [1183, 366, 1187, 370, 374, 378] (by decide +kernel) (by decide +kernel) w h).1
set_option maxRecDepth 20000 in
theorem wsL_in_r24 : ∀ w ∈ wsL_law_0_r24, w ∈ lw_tbl := fun w h => (goodIn_p wsL_law_0_r24 [382, 388, 391, 394, 1191, 1195, 1199] (by decide +kernel) (by decide +kernel) w h).1
set_option maxRecDepth 20000 in
theorem wsL_in_r25 : ∀ w ∈ wsL_law_0_r25, w ∈ lw_tbl := fun w h => (goodIn_p wsL_law_0_r25 [1203, 1207, 1211, 1215] (by decide +kernel) (by decide +kernel) w h).1
set_option maxRecDepth 20000 in
theorem wsL_in_r26 : ∀ w ∈ wsL_law_0_r26, w ∈ lw_tbl := fun w h => (goodIn_p wsL_law_0_r26 [840, 844, 848, 852, 856, 860, 864] (by decide +kernel) (by decide +kernel) w h).1
set_option maxRecDepth 20000 in
theorem wsL_in_r27 : ∀ w ∈ wsL_law_0_r27, w ∈ lw_tbl := fun w h => (goodIn_p wsL_law_0_r27 [870, 875, 881, 887, 1219, 1223] (by decide +kernel) (by decide +kernel) w h).1
set_option maxRecDepth 20000 in
theorem wsL_in_r28 : ∀ w ∈ wsL_law_0_r28, w ∈ lw_tbl := fun w h => (goodIn_p wsL_law_0_r28 [1227, 895, 531, 1231, 902] (by decide +kernel) (by decide +kernel) w h).1
set_option maxRecDepth 20000 in
theorem wsL_in_r29 : ∀ w ∈ wsL_law_0_r29, w ∈ lw_tbl := fun w h => (goodIn_p wsL_law_0_r29 [906, 1235, 398, 1239, 913] (by decide +kernel) (by decide +kernel) w h).1
set_option maxRecDepth 20000 in
theorem wsL_in_r30 : ∀ w ∈ wsL_law_0_r30, w ∈ lw_tbl := fun w h => (goodIn_p wsL_law_0_r30 [1243, 920, 462, 476, 1247, 1251] (by decide +kernel) (by decide +kernel) w h).1
set_option maxRecDepth 20000 in
theorem wsL_in_r31 : ∀ w ∈ wsL_law_0_r31, w ∈ lw_tbl := fun w h => (goodIn_p wsL_law_0_r31 [927, 1255, 934, 434, 438] (by decide +kernel) (by decide +kernel) w h).1
set_option maxRecDepth 20000 in
theorem wsL_in_r32 : ∀ w ∈ wsL_law_0_r32, w ∈ lw_tbl := fun w h => (goodIn_p wsL_law_0_r32 [442, 446, 1259, 1263, 1267, 1271] (by decide +kernel) (by decide +kernel) w h).1
set_option maxRecDepth 20000 in
theorem wsL_in_r33 : ∀ w ∈ wsL_law_0_r33, w ∈ lw_tbl := fun w h => (goodIn_p wsL_law_0_r33 [1275, 941, 1279, 948, 1283] (by decide +kernel) (by decide +kernel) w h).1
set_option maxRecDepth 20000 in
theorem wsL_in_r34 : ∀ w ∈ wsL_law_0_r34, w ∈ lw_tbl := fun w h => (goodIn_p wsL_law_0_r34 [955, 1287, 962, 501] (by decide +kernel) (by decide +kernel) w h).1
set_option maxRecDepth 20000 in
theorem wsL_in_r35 : ∀ w ∈ wsL_law_0_r35, w ∈ lw_tbl := fun w h => (goodIn_p wsL_law_0_r35 [1291, 1295, 969, 489, 1299, 1303] (by decide +kernel) (by decide +kernel) w h).1
set_option maxRecDepth 20000 in
theorem wsL_in_r36 : ∀ w ∈ wsL_law_0_r36, w ∈ lw_tbl := fun w h => (goodIn_p wsL_law_0_r36 [976, 518, 411, 1307, 1311] (by decide +kernel) (by decide +kernel) w h).1
set_option maxRecDepth 20000 in
theorem wsL_in_r37 : ∀ w ∈ wsL_law_0_r37, w ∈ lw_tbl := fun w h => (goodIn_p wsL_law_0_r37 [403, 407, 1315, 1319, 429, 453] (by decide +kernel) (by decide +kernel) w h).1
set_option maxRecDepth 20000 in
theorem wsL_in_r38 : ∀ w ∈ wsL_law_0_r38, w ∈ lw_tbl := fun w h => (goodIn_p wsL_law_0_r38 [458, 522, 534, 1323, 1328] (by decide +kernel) (by decide +kernel) w h).1
set_option maxRecDepth 20000 in
theorem wsL_in_r39 : ∀ w ∈ wsL_law_0_r39, w ∈ lw_tbl := fun w h => (goodIn_p wsL_law_0_r39 [1333, 1336] (by decide +kernel) (by decide +kernel) w h).1
set_option maxRecDepth 20000 in
theorem inX5 : ∀ w ∈ wsX50, w ∈ lw_tbl := by decide +kernel
set_option maxRecDepth 20000 in
theorem inX6 : ∀ w ∈ wsX60, w ∈ lw_tbl := by decide +kernel
set_option maxRecDepth 20000 in
theorem inX0 : ∀ w ∈ wsX00, w ∈ lw_tbl := by decide +kernel
set_option maxRecDepth 20000 in
theorem inX2 : ∀ w ∈ wsX20, w ∈ lw_tbl := by decide +kernel
set_option maxRecDepth 20000 in
theorem inX4 : ∀ w ∈ wsX40, w ∈ lw_tbl := by decide +kernel
set_option maxRecDepth 20000 in
theorem inX1 : ∀ w ∈ wsX10, w ∈ lw_tbl := by decide +kernel
set_option maxRecDepth 20000 in
theorem inX3 : ∀ w ∈ wsX30, w ∈ lw_tbl := by decide +kernel
set_option maxRecDepth 20000 in
theorem wsL_app {a b : List Cond} (ha : ∀ w ∈ a, w ∈ lw_tbl) (hb : ∀ w ∈ b, w ∈ lw_tbl) : ∀ w ∈ a ++ b, w ∈ lw_tbl := fun w h => (List.mem_append.mp h).elim (ha w) (hb w)
set_option maxRecDepth 20000 in
theorem wsL_law__in0 : ∀ w ∈ wsL_law_0, w ∈ lw_tbl := (wsL_app (wsL_app (wsL_app (wsL_app (wsL_app (wsL_app (wsL_app (wsL_app (wsL_app wsL_in_r1 (wsL_app wsL_in_r2 (wsL_app wsL_in_r3 (wsL_app wsL_in_r4 (wsL_app wsL_in_r5 (wsL_app wsL_in_r6 (wsL_app wsL_in_r7 (wsL_app wsL_in_r8 (wsL_app wsL_in_r9 (wsL_app wsL_in_r10 (wsL_app wsL_in_r11 (wsL_app wsL_in_r12 (wsL_app wsL_in_r13 (wsL_app wsL_in_r14 (wsL_app wsL_in_r15 (wsL_app wsL_in_r16 (wsL_app wsL_in_r17 (wsL_app wsL_in_r18 (wsL_app wsL_in_r19 (wsL_app wsL_in_r20 (wsL_app wsL_in_r21 (wsL_app wsL_in_r22 (wsL_app wsL_in_r23 (wsL_app wsL_in_r24 (wsL_app wsL_in_r25 (wsL_app wsL_in_r26 (wsL_app wsL_in_r27 (wsL_app wsL_in_r28 (wsL_app wsL_in_r29 (wsL_app wsL_in_r30 (wsL_app wsL_in_r31 (wsL_app wsL_in_r32 (wsL_app wsL_in_r33 (wsL_app wsL_in_r34 (wsL_app wsL_in_r35 (wsL_app wsL_in_r36 (wsL_app wsL_in_r37 (wsL_app wsL_in_r38 wsL_in_r39)))))))))))))))))))))))))))))))))))))) inX5) inX6) inX0) inX2) inX4) inX1) inX3) (fun w h => absurd h List.not_mem_nil))
set_option maxRecDepth 20000 in
theorem wsL_law__x0 : ∀ w ∈ (vx_atS RX5 252 "java/lang/IllegalArgumentException" ["java/lang/RuntimeException", "java/lang/Exception"]).filter goodWord, w ∈ lw_tbl := by decide +kernel
set_option maxRecDepth 20000 in
theorem wsL_law__x1 : ∀ w ∈ (vx_atS RX5 257 "java/lang/IllegalStateException" ["java/lang/RuntimeException", "java/lang/Exception"]).filter goodWord, w ∈ lw_tbl := by decide +kernel
set_option maxRecDepth 20000 in
theorem wsL_law__x2 : ∀ w ∈ (vx_atS RX5 243 "java/lang/IndexOutOfBoundsException" ["java/lang/RuntimeException", "java/lang/Exception"]).filter goodWord, w ∈ lw_tbl := by decide +kernel
set_option maxRecDepth 20000 in
theorem wsL_law__in : ∀ w ∈ wsL_law_, w ∈ lw_tbl := fun w h => (List.mem_append.mp h).elim (fun h => (List.mem_append.mp h).elim (fun h => (List.mem_append.mp h).elim (fun h => wsL_law__in0 w h) (fun h => wsL_law__x0 w h)) (fun h => wsL_law__x1 w h)) (fun h => wsL_law__x2 w h)
