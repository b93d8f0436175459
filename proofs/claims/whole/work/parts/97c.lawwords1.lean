/-! the law's words lie in the tables: a chunk at a time -/
set_option maxRecDepth 20000 in
theorem inlw_1 : ∀ w ∈ wsL_law0_r1, w ∈ lw_tbl := fun w h => (goodIn_p wsL_law0_r1 [94, 97] (by decide +kernel) (by decide +kernel) w h).1
set_option maxRecDepth 20000 in
theorem inlw_2 : ∀ w ∈ wsL_law0_r2, w ∈ lw_tbl := fun w h => (goodIn_p wsL_law0_r2 [102] (by decide +kernel) (by decide +kernel) w h).1
set_option maxRecDepth 20000 in
theorem inlw_3 : ∀ w ∈ wsL_law0_r3, w ∈ lw_tbl := fun w h => (goodIn_p wsL_law0_r3 [170, 845] (by decide +kernel) (by decide +kernel) w h).1
set_option maxRecDepth 20000 in
theorem inlw_4 : ∀ w ∈ wsL_law0_r4, w ∈ lw_tbl := fun w h => (goodIn_p wsL_law0_r4 [508, 511, 514, 586, 434] (by decide +kernel) (by decide +kernel) w h).1
set_option maxRecDepth 20000 in
theorem inlw_5 : ∀ w ∈ wsL_law0_r5, w ∈ lw_tbl := fun w h => (goodIn_p wsL_law0_r5 [320, 349, 352, 323, 606] (by decide +kernel) (by decide +kernel) w h).1
set_option maxRecDepth 20000 in
theorem inlw_6 : ∀ w ∈ wsL_law0_r6, w ∈ lw_tbl := fun w h => (goodIn_p wsL_law0_r6 [305, 610, 316, 894, 897, 900] (by decide +kernel) (by decide +kernel) w h).1
set_option maxRecDepth 20000 in
theorem inlw_7 : ∀ w ∈ wsL_law0_r7, w ∈ lw_tbl := fun w h => (goodIn_p wsL_law0_r7 [903, 906, 909, 913, 917, 920, 924] (by decide +kernel) (by decide +kernel) w h).1
set_option maxRecDepth 20000 in
theorem inlw_8 : ∀ w ∈ wsL_law0_r8, w ∈ lw_tbl := fun w h => (goodIn_p wsL_law0_r8 [928, 931, 935, 939, 943] (by decide +kernel) (by decide +kernel) w h).1
set_option maxRecDepth 20000 in
theorem inlw_9 : ∀ w ∈ wsL_law0_r9, w ∈ lw_tbl := fun w h => (goodIn_p wsL_law0_r9 [890, 619, 639, 947] (by decide +kernel) (by decide +kernel) w h).1
set_option maxRecDepth 20000 in
theorem inlw_10 : ∀ w ∈ wsL_law0_r10, w ∈ lw_tbl := fun w h => (goodIn_p wsL_law0_r10 [646, 650, 655, 951, 662, 293] (by decide +kernel) (by decide +kernel) w h).1
set_option maxRecDepth 20000 in
theorem inlw_11 : ∀ w ∈ wsL_law0_r11, w ∈ lw_tbl := fun w h => (goodIn_p wsL_law0_r11 [955, 671, 959, 963] (by decide +kernel) (by decide +kernel) w h).1
set_option maxRecDepth 20000 in
theorem inlw_12 : ∀ w ∈ wsL_law0_r12, w ∈ lw_tbl := fun w h => (goodIn_p wsL_law0_r12 [679, 967, 686, 342, 346, 363] (by decide +kernel) (by decide +kernel) w h).1
set_option maxRecDepth 20000 in
theorem inlw_13 : ∀ w ∈ wsL_law0_r13, w ∈ lw_tbl := fun w h => (goodIn_p wsL_law0_r13 [356, 360, 367, 371, 375, 379] (by decide +kernel) (by decide +kernel) w h).1
set_option maxRecDepth 20000 in
theorem inlw_14 : ∀ w ∈ wsL_law0_r14, w ∈ lw_tbl := fun w h => (goodIn_p wsL_law0_r14 [383, 971, 975, 979, 983, 987] (by decide +kernel) (by decide +kernel) w h).1
set_option maxRecDepth 20000 in
theorem inlw_15 : ∀ w ∈ wsL_law0_r15, w ∈ lw_tbl := fun w h => (goodIn_p wsL_law0_r15 [991, 994, 998, 1002, 694] (by decide +kernel) (by decide +kernel) w h).1
set_option maxRecDepth 20000 in
theorem inlw_16 : ∀ w ∈ wsL_law0_r16, w ∈ lw_tbl := fun w h => (goodIn_p wsL_law0_r16 [699, 1006, 706, 1010, 1013] (by decide +kernel) (by decide +kernel) w h).1
set_option maxRecDepth 20000 in
theorem inlw_17 : ∀ w ∈ wsL_law0_r17, w ∈ lw_tbl := fun w h => (goodIn_p wsL_law0_r17 [719, 1017, 226, 1021, 230] (by decide +kernel) (by decide +kernel) w h).1
set_option maxRecDepth 20000 in
theorem inlw_18 : ∀ w ∈ wsL_law0_r18, w ∈ lw_tbl := fun w h => (goodIn_p wsL_law0_r18 [234, 238, 242, 246, 249, 253] (by decide +kernel) (by decide +kernel) w h).1
set_option maxRecDepth 20000 in
theorem inlw_19 : ∀ w ∈ wsL_law0_r19, w ∈ lw_tbl := fun w h => (goodIn_p wsL_law0_r19 [257, 261, 264, 268, 272, 275, 279] (by decide +kernel) (by decide +kernel) w h).1
set_option maxRecDepth 20000 in
theorem inlw_20 : ∀ w ∈ wsL_law0_r20, w ∈ lw_tbl := fun w h => (goodIn_p wsL_law0_r20 [283, 287, 290, 297, 1025, 1029] (by decide +kernel) (by decide +kernel) w h).1
set_option maxRecDepth 20000 in
theorem inlw_21 : ∀ w ∈ wsL_law0_r21, w ∈ lw_tbl := fun w h => (goodIn_p wsL_law0_r21 [1033, 1037, 1041, 1045, 1048] (by decide +kernel) (by decide +kernel) w h).1
set_option maxRecDepth 20000 in
theorem inlw_22 : ∀ w ∈ wsL_law0_r22, w ∈ lw_tbl := fun w h => (goodIn_p wsL_law0_r22 [1052, 728, 732, 737, 742] (by decide +kernel) (by decide +kernel) w h).1
set_option maxRecDepth 20000 in
theorem inlw_23 : ∀ w ∈ wsL_law0_r23, w ∈ lw_tbl := fun w h => (goodIn_p wsL_law0_r23 [746, 750, 1056, 759, 1060] (by decide +kernel) (by decide +kernel) w h).1
set_option maxRecDepth 20000 in
theorem inlw_24 : ∀ w ∈ wsL_law0_r24, w ∈ lw_tbl := fun w h => (goodIn_p wsL_law0_r24 [301, 312, 1064, 1068, 767] (by decide +kernel) (by decide +kernel) w h).1
set_option maxRecDepth 20000 in
theorem inlw_25 : ∀ w ∈ wsL_law0_r25, w ∈ lw_tbl := fun w h => (goodIn_p wsL_law0_r25 [1072, 775, 1076, 782] (by decide +kernel) (by decide +kernel) w h).1
set_option maxRecDepth 20000 in
theorem inlw_26 : ∀ w ∈ wsL_law0_r26, w ∈ lw_tbl := fun w h => (goodIn_p wsL_law0_r26 [786, 1080, 793, 426, 430, 438] (by decide +kernel) (by decide +kernel) w h).1
set_option maxRecDepth 20000 in
theorem inlw_27 : ∀ w ∈ wsL_law0_r27, w ∈ lw_tbl := fun w h => (goodIn_p wsL_law0_r27 [442, 1084, 1088, 1092, 1096] (by decide +kernel) (by decide +kernel) w h).1
set_option maxRecDepth 20000 in
theorem inlw_28 : ∀ w ∈ wsL_law0_r28, w ∈ lw_tbl := fun w h => (goodIn_p wsL_law0_r28 [801, 1100, 809, 451, 455] (by decide +kernel) (by decide +kernel) w h).1
set_option maxRecDepth 20000 in
theorem inlw_29 : ∀ w ∈ wsL_law0_r29, w ∈ lw_tbl := fun w h => (goodIn_p wsL_law0_r29 [1104, 1108, 1112, 816, 463] (by decide +kernel) (by decide +kernel) w h).1
set_option maxRecDepth 20000 in
theorem inlw_30 : ∀ w ∈ wsL_law0_r30, w ∈ lw_tbl := fun w h => (goodIn_p wsL_law0_r30 [468, 472, 476, 1116, 824] (by decide +kernel) (by decide +kernel) w h).1
set_option maxRecDepth 20000 in
theorem inlw_31 : ∀ w ∈ wsL_law0_r31, w ∈ lw_tbl := fun w h => (goodIn_p wsL_law0_r31 [401, 405, 409, 413, 1120, 1124] (by decide +kernel) (by decide +kernel) w h).1
set_option maxRecDepth 20000 in
theorem inlw_32 : ∀ w ∈ wsL_law0_r32, w ∈ lw_tbl := fun w h => (goodIn_p wsL_law0_r32 [1128, 832, 338, 484, 1132] (by decide +kernel) (by decide +kernel) w h).1
set_option maxRecDepth 20000 in
theorem inlw_33 : ∀ w ∈ wsL_law0_r33, w ∈ lw_tbl := fun w h => (goodIn_p wsL_law0_r33 [1136, 1140, 1144, 330, 334, 1148] (by decide +kernel) (by decide +kernel) w h).1
set_option maxRecDepth 20000 in
theorem inlw_34 : ∀ w ∈ wsL_law0_r34, w ∈ lw_tbl := fun w h => (goodIn_p wsL_law0_r34 [1152, 840, 489, 1156, 1160] (by decide +kernel) (by decide +kernel) w h).1
set_option maxRecDepth 20000 in
theorem inlw_35 : ∀ w ∈ wsL_law0_r35, w ∈ lw_tbl := fun w h => (goodIn_p wsL_law0_r35 [387, 391, 1164, 1168, 396, 417] (by decide +kernel) (by decide +kernel) w h).1
set_option maxRecDepth 20000 in
theorem inlw_36 : ∀ w ∈ wsL_law0_r36, w ∈ lw_tbl := fun w h => (goodIn_p wsL_law0_r36 [422, 447, 459, 480, 492] (by decide +kernel) (by decide +kernel) w h).1
set_option maxRecDepth 20000 in
theorem inlw_37 : ∀ w ∈ wsL_law0_r37, w ∈ lw_tbl := fun w h => (goodIn_p wsL_law0_r37 [499, 1172, 1177, 1182, 1185] (by decide +kernel) (by decide +kernel) w h).1
theorem inlwX2 : ∀ w ∈ wsX20, w ∈ lw_tbl := by decide +kernel
theorem inlwX3 : ∀ w ∈ wsX30, w ∈ lw_tbl := by decide +kernel
theorem inlwX1 : ∀ w ∈ wsX10, w ∈ lw_tbl := by decide +kernel
theorem inlwX0 : ∀ w ∈ wsX00, w ∈ lw_tbl := by decide +kernel
theorem inlwR : ∀ w ∈ ((wsL_law0_r1 ++ (wsL_law0_r2 ++ (wsL_law0_r3 ++ (wsL_law0_r4 ++ (wsL_law0_r5 ++ (wsL_law0_r6 ++ (wsL_law0_r7 ++ (wsL_law0_r8 ++ (wsL_law0_r9 ++ (wsL_law0_r10 ++ (wsL_law0_r11 ++ (wsL_law0_r12 ++ (wsL_law0_r13 ++ (wsL_law0_r14 ++ (wsL_law0_r15 ++ (wsL_law0_r16 ++ (wsL_law0_r17 ++ (wsL_law0_r18 ++ (wsL_law0_r19 ++ (wsL_law0_r20 ++ (wsL_law0_r21 ++ (wsL_law0_r22 ++ (wsL_law0_r23 ++ (wsL_law0_r24 ++ (wsL_law0_r25 ++ (wsL_law0_r26 ++ (wsL_law0_r27 ++ (wsL_law0_r28 ++ (wsL_law0_r29 ++ (wsL_law0_r30 ++ (wsL_law0_r31 ++ (wsL_law0_r32 ++ (wsL_law0_r33 ++ (wsL_law0_r34 ++ (wsL_law0_r35 ++ (wsL_law0_r36 ++ wsL_law0_r37))))))))))))))))))))))))))))))))))))), w ∈ lw_tbl := fun w h => (List.mem_append.mp h).elim (fun h => inlw_1 w h) (fun h => (List.mem_append.mp h).elim (fun h => inlw_2 w h) (fun h => (List.mem_append.mp h).elim (fun h => inlw_3 w h) (fun h => (List.mem_append.mp h).elim (fun h => inlw_4 w h) (fun h => (List.mem_append.mp h).elim (fun h => inlw_5 w h) (fun h => (List.mem_append.mp h).elim (fun h => inlw_6 w h) (fun h => (List.mem_append.mp h).elim (fun h => inlw_7 w h) (fun h => (List.mem_append.mp h).elim (fun h => inlw_8 w h) (fun h => (List.mem_append.mp h).elim (fun h => inlw_9 w h) (fun h => (List.mem_append.mp h).elim (fun h => inlw_10 w h) (fun h => (List.mem_append.mp h).elim (fun h => inlw_11 w h) (fun h => (List.mem_append.mp h).elim (fun h => inlw_12 w h) (fun h => (List.mem_append.mp h).elim (fun h => inlw_13 w h) (fun h => (List.mem_append.mp h).elim (fun h => inlw_14 w h) (fun h => (List.mem_append.mp h).elim (fun h => inlw_15 w h) (fun h => (List.mem_append.mp h).elim (fun h => inlw_16 w h) (fun h => (List.mem_append.mp h).elim (fun h => inlw_17 w h) (fun h => (List.mem_append.mp h).elim (fun h => inlw_18 w h) (fun h => (List.mem_append.mp h).elim (fun h => inlw_19 w h) (fun h => (List.mem_append.mp h).elim (fun h => inlw_20 w h) (fun h => (List.mem_append.mp h).elim (fun h => inlw_21 w h) (fun h => (List.mem_append.mp h).elim (fun h => inlw_22 w h) (fun h => (List.mem_append.mp h).elim (fun h => inlw_23 w h) (fun h => (List.mem_append.mp h).elim (fun h => inlw_24 w h) (fun h => (List.mem_append.mp h).elim (fun h => inlw_25 w h) (fun h => (List.mem_append.mp h).elim (fun h => inlw_26 w h) (fun h => (List.mem_append.mp h).elim (fun h => inlw_27 w h) (fun h => (List.mem_append.mp h).elim (fun h => inlw_28 w h) (fun h => (List.mem_append.mp h).elim (fun h => inlw_29 w h) (fun h => (List.mem_append.mp h).elim (fun h => inlw_30 w h) (fun h => (List.mem_append.mp h).elim (fun h => inlw_31 w h) (fun h => (List.mem_append.mp h).elim (fun h => inlw_32 w h) (fun h => (List.mem_append.mp h).elim (fun h => inlw_33 w h) (fun h => (List.mem_append.mp h).elim (fun h => inlw_34 w h) (fun h => (List.mem_append.mp h).elim (fun h => inlw_35 w h) (fun h => (List.mem_append.mp h).elim (fun h => inlw_36 w h) (fun h => inlw_37 w h))))))))))))))))))))))))))))))))))))
theorem wsL_law_in0 : ∀ w ∈ wsL_law0, w ∈ lw_tbl := fun w h => by
  unfold wsL_law0 at h
  exact (List.mem_append.mp h).elim (fun h => (List.mem_append.mp h).elim (fun h => (List.mem_append.mp h).elim (fun h => (List.mem_append.mp h).elim (fun h => (List.mem_append.mp h).elim (fun h => inlwR w h) (fun h => inlwX2 w h)) (fun h => inlwX3 w h)) (fun h => inlwX1 w h)) (fun h => inlwX0 w h)) (fun h => by cases h)
