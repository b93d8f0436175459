theorem dL_cell_0 : decode cL_cell 0 = .ok (.iload_n 1, 1) := by decide +kernel
theorem dL_cell_1 : decode cL_cell 1 = .ok (.aload_n 0, 1) := by decide +kernel
theorem dL_cell_2 : decode cL_cell 2 = .ok (.arraylength, 1) := by decide +kernel
theorem dL_cell_3 : decode cL_cell 3 = .ok (.if_icmp .ge 9, 3) := by decide +kernel
theorem dL_cell_6 : decode cL_cell 6 = .ok (.aload_n 0, 1) := by decide +kernel
theorem dL_cell_7 : decode cL_cell 7 = .ok (.iload_n 1, 1) := by decide +kernel
theorem dL_cell_8 : decode cL_cell 8 = .ok (.iaload, 1) := by decide +kernel
theorem dL_cell_9 : decode cL_cell 9 = .ok (.goto 17, 3) := by decide +kernel
theorem dL_cell_12 : decode cL_cell 12 = .ok (.sipush 7919, 3) := by decide +kernel
theorem dL_cell_15 : decode cL_cell 15 = .ok (.iload_n 1, 1) := by decide +kernel
theorem dL_cell_16 : decode cL_cell 16 = .ok (.bipush 7, 2) := by decide +kernel
theorem dL_cell_18 : decode cL_cell 18 = .ok (.iadd, 1) := by decide +kernel
theorem dL_cell_19 : decode cL_cell 19 = .ok (.imul, 1) := by decide +kernel
theorem dL_cell_20 : decode cL_cell 20 = .ok (.iload_n 1, 1) := by decide +kernel
theorem dL_cell_21 : decode cL_cell 21 = .ok (.sipush 311, 3) := by decide +kernel
theorem dL_cell_24 : decode cL_cell 24 = .ok (.iadd, 1) := by decide +kernel
theorem dL_cell_25 : decode cL_cell 25 = .ok (.imul, 1) := by decide +kernel
theorem dL_cell_26 : decode cL_cell 26 = .ok (.ireturn, 1) := by decide +kernel
theorem dL_low_0 : decode cL_low 0 = .ok (.iload_n 0, 1) := by decide +kernel
theorem dL_low_1 : decode cL_low 1 = .ok (.ldc 7, 2) := by decide +kernel
theorem dL_low_3 : decode cL_low 3 = .ok (.iand, 1) := by decide +kernel
theorem dL_low_4 : decode cL_low 4 = .ok (.iload_n 1, 1) := by decide +kernel
theorem dL_low_5 : decode cL_low 5 = .ok (.irem, 1) := by decide +kernel
theorem dL_low_6 : decode cL_low 6 = .ok (.ireturn, 1) := by decide +kernel
set_option maxRecDepth 20000 in
theorem ggL_changes_X2_pin : GoodIn wsL_changes wsX2_pin := goodIn_ca (goodIn_ca (goodIn_r _ [8, 9, 10, 11, 12, 13, 14, 15, 7, 16, 17, 18, 19, 20, 21, 22, 23, 24, 25, 26, 27, 28, 29, 30, 31, 32, 33, 34, 35, 36, 37, 38, 39, 40, 41, 42, 43, 44, 45, 46, 47, 48, 49, 50, 51, 52, 53, 54, 55, 56, 57, 58, 59, 60, 61, 62, 63, 64, 65, 66, 67, 68, 69, 70, 71, 72, 73, 74, 75, 76, 77, 78, 79, 80, 81, 82, 83, 84, 85, 86, 173, 174, 175, 176, 177, 178, 179, 180, 181, 182, 183, 184, 185, 186, 187, 188, 189, 190, 191, 192, 193, 194, 195, 196, 197, 198, 199] rfl (by decide +kernel)) (goodIn_sub (fun _ h => List.mem_cons_of_mem _ (List.mem_append_left _ (List.mem_append_left _ (List.mem_append_right _ h)))) (by decide +kernel))) (goodIn_sub (fun _ h => List.mem_cons_of_mem _ (List.mem_append_left _ (List.mem_append_right _ h))) (by decide +kernel))
set_option maxRecDepth 20000 in
theorem gL_changes_X2_pin : GoodIn wsL_changes (wsV RL 8 RX2 yX2_pin wsX2_pin) := goodIn_app (goodIn_r _ [4, 5, 6, 7] rfl (by decide +kernel)) ggL_changes_X2_pin
set_option maxRecDepth 20000 in
theorem ggL_changes_X2_pull : GoodIn wsL_changes wsX2_pull := goodIn_ca (goodIn_ca (goodIn_r _ [90, 9, 10, 91, 92, 13, 14, 15, 7, 16, 17, 18, 19, 49, 50, 51, 52, 53, 54, 55, 56, 57, 58, 23, 59, 34, 60, 61, 62, 63, 64, 65, 66, 67, 68, 25, 69, 70, 71, 72, 73, 74, 75, 76, 77, 78, 93, 94, 95, 96, 26, 27, 28, 29, 30, 31, 32, 33, 173, 174, 175, 176, 177, 178, 179, 180, 181, 182, 183, 184, 185, 186, 187, 188, 189, 190, 191, 192, 193, 194, 195, 196, 197, 198, 199] rfl (by decide +kernel)) (goodIn_sub (fun _ h => List.mem_cons_of_mem _ (List.mem_append_left _ (List.mem_append_left _ (List.mem_append_right _ h)))) (by decide +kernel))) (goodIn_sub (fun _ h => List.mem_cons_of_mem _ (List.mem_append_right _ h)) (by decide +kernel))
set_option maxRecDepth 20000 in
theorem gL_changes_X2_pull : GoodIn wsL_changes (wsV RL 14 RX2 yX2_pull wsX2_pull) := goodIn_app (goodIn_r _ [87, 88, 89, 7] rfl (by decide +kernel)) ggL_changes_X2_pull
set_option maxRecDepth 20000 in
theorem ggL_changes_X2_wind : GoodIn wsL_changes wsX2_wind := goodIn_ca (goodIn_r _ [100, 91, 92, 13, 101, 102, 103, 104, 105, 106, 7, 107, 49, 50, 51, 52, 53, 54, 55, 56, 57, 58, 23, 59, 34, 60, 61, 62, 63, 64, 65, 66, 67, 68, 25, 69, 70, 71, 72, 73, 74, 75, 76, 77, 78, 173, 174, 175, 176, 177, 178, 179, 180, 181, 182, 183, 184, 185, 186, 187, 188, 189, 190, 191, 192, 193, 194, 195, 196, 197, 198, 199] rfl (by decide +kernel)) (goodIn_sub (fun _ h => List.mem_cons_of_mem _ (List.mem_append_right _ h)) (by decide +kernel))
set_option maxRecDepth 20000 in
theorem gL_changes_X2_wind : GoodIn wsL_changes (wsV RL 18 RX2 yX2_wind wsX2_wind) := goodIn_app (goodIn_r _ [97, 98, 99, 7] rfl (by decide +kernel)) ggL_changes_X2_wind
set_option maxRecDepth 20000 in
theorem ggL_changes_X2_vanes : GoodIn wsL_changes wsX2_vanes := goodIn_ca (goodIn_r _ [111, 91, 92, 13, 105, 106, 7, 107, 49, 50, 51, 52, 53, 54, 55, 56, 57, 58, 23, 59, 34, 60, 61, 62, 63, 64, 65, 66, 67, 68, 25, 69, 70, 71, 72, 73, 74, 75, 76, 77, 78, 173, 174, 175, 176, 177, 178, 179, 180, 181, 182, 183, 184, 185, 186, 187, 188, 189, 190, 191, 192, 193, 194, 195, 196, 197, 198, 199] rfl (by decide +kernel)) (goodIn_sub (fun _ h => List.mem_cons_of_mem _ (List.mem_append_right _ h)) (by decide +kernel))
set_option maxRecDepth 20000 in
theorem gL_changes_X2_vanes : GoodIn wsL_changes (wsV RL 22 RX2 yX2_vanes wsX2_vanes) := goodIn_app (goodIn_r _ [108, 109, 110, 7] rfl (by decide +kernel)) ggL_changes_X2_vanes
set_option maxRecDepth 20000 in
theorem ggL_changes_X2_shift : GoodIn wsL_changes wsX2_shift := goodIn_ca (goodIn_r _ [115, 9, 10, 13, 17, 18, 7, 19, 49, 50, 51, 52, 53, 54, 55, 56, 57, 58, 23, 59, 34, 60, 61, 62, 63, 64, 65, 66, 67, 68, 25, 69, 70, 71, 72, 73, 74, 75, 76, 77, 78, 173, 174, 175, 176, 177, 178, 179, 180, 181, 182, 183, 184, 185, 186, 187, 188, 189, 190, 191, 192, 193, 194, 195, 196, 197, 198, 199] rfl (by decide +kernel)) (goodIn_sub (fun _ h => List.mem_cons_of_mem _ (List.mem_append_left _ (List.mem_append_left _ (List.mem_append_right _ h)))) (by decide +kernel))
set_option maxRecDepth 20000 in
theorem gL_changes_X2_shift : GoodIn wsL_changes (wsV RL 25 RX2 yX2_shift wsX2_shift) := goodIn_app (goodIn_r _ [112, 113, 114, 7] rfl (by decide +kernel)) ggL_changes_X2_shift
set_option maxRecDepth 20000 in
theorem ggL_changes_X2_play : GoodIn wsL_changes wsX2_play := goodIn_ca (goodIn_r _ [119, 91, 92, 13, 105, 106, 7, 107, 49, 50, 51, 52, 53, 54, 55, 56, 57, 58, 23, 59, 34, 60, 61, 62, 63, 64, 65, 66, 67, 68, 25, 69, 70, 71, 72, 73, 74, 75, 76, 77, 78, 120, 121, 122, 123, 124, 125, 126, 127, 128, 129, 103, 130, 35, 36, 37, 38, 39, 40, 41, 131, 132, 133, 134, 30, 31, 32, 33, 135, 136, 137, 138, 42, 43, 44, 45, 46, 47, 48, 139, 140, 141, 142, 143, 144, 145, 146, 147, 148, 149, 150, 151, 152, 153, 154, 155, 156, 157, 158, 173, 174, 175, 176, 177, 178, 179, 180, 181, 182, 183, 184, 185, 186, 187, 188, 189, 190, 191, 192, 193, 194, 195, 196, 197, 198, 199] rfl (by decide +kernel)) (goodIn_sub (fun _ h => List.mem_cons_of_mem _ (List.mem_append_right _ h)) (by decide +kernel))
set_option maxRecDepth 20000 in
theorem gL_changes_X2_play : GoodIn wsL_changes (wsV RL 28 RX2 yX2_play wsX2_play) := goodIn_app (goodIn_r _ [116, 117, 118, 7] rfl (by decide +kernel)) ggL_changes_X2_play
set_option maxRecDepth 20000 in
theorem ggL_changes_X2_mend : GoodIn wsL_changes wsX2_mend := goodIn_ca (goodIn_r _ [162, 9, 10, 13, 17, 18, 7, 19, 49, 50, 51, 52, 53, 54, 55, 56, 57, 58, 23, 59, 34, 60, 61, 62, 63, 64, 65, 66, 67, 68, 25, 69, 70, 71, 72, 73, 74, 75, 76, 77, 78, 163, 164, 165, 166, 173, 174, 175, 176, 177, 178, 179, 180, 181, 182, 183, 184, 185, 186, 187, 188, 189, 190, 191, 192, 193, 194, 195, 196, 197, 198, 199] rfl (by decide +kernel)) (goodIn_sub (fun _ h => List.mem_cons_of_mem _ (List.mem_append_left _ (List.mem_append_left _ (List.mem_append_right _ h)))) (by decide +kernel))
set_option maxRecDepth 20000 in
theorem gL_changes_X2_mend : GoodIn wsL_changes (wsV RL 31 RX2 yX2_mend wsX2_mend) := goodIn_app (goodIn_r _ [159, 160, 161, 7] rfl (by decide +kernel)) ggL_changes_X2_mend
set_option maxRecDepth 20000 in
theorem ggL_changes_X2_set : GoodIn wsL_changes wsX2_set := goodIn_ca (goodIn_ca (goodIn_r _ [170, 9, 10, 91, 92, 171, 172, 13, 17, 18, 7, 19, 105, 106, 107, 49, 50, 51, 52, 53, 54, 55, 56, 57, 58, 23, 59, 34, 60, 61, 62, 63, 64, 65, 66, 67, 68, 25, 69, 70, 71, 72, 73, 74, 75, 76, 77, 78, 173, 174, 175, 176, 177, 178, 179, 180, 181, 182, 183, 184, 185, 186, 187, 188, 189, 190, 191, 192, 193, 194, 195, 196, 197, 198, 199] rfl (by decide +kernel)) (goodIn_sub (fun _ h => List.mem_cons_of_mem _ (List.mem_append_left _ (List.mem_append_left _ (List.mem_append_right _ h)))) (by decide +kernel))) (goodIn_sub (fun _ h => List.mem_cons_of_mem _ (List.mem_append_right _ h)) (by decide +kernel))
set_option maxRecDepth 20000 in
theorem gL_changes_X2_set : GoodIn wsL_changes (wsV RL 34 RX2 yX2_set wsX2_set) := goodIn_app (goodIn_r _ [167, 168, 169, 7] rfl (by decide +kernel)) ggL_changes_X2_set
theorem dL_changes_0 : decode cL_changes 0 = .ok (.aload 5, 2) := by decide +kernel
theorem dL_changes_2 : decode cL_changes 2 = .ok (.iconst 0, 1) := by decide +kernel
theorem dL_changes_3 : decode cL_changes 3 = .ok (.iload_n 1, 1) := by decide +kernel
theorem dL_changes_4 : decode cL_changes 4 = .ok (.ifCond .ne 14, 3) := by decide +kernel
theorem dL_changes_7 : decode cL_changes 7 = .ok (.aload_n 0, 1) := by decide +kernel
theorem dL_changes_8 : decode cL_changes 8 = .ok (.iload_n 2, 1) := by decide +kernel
theorem dL_changes_9 : decode cL_changes 9 = .ok (.iload_n 3, 1) := by decide +kernel
theorem dL_changes_10 : decode cL_changes 10 = .ok (.iload 4, 2) := by decide +kernel
theorem dL_changes_12 : decode cL_changes 12 = .ok (.invokevirtual 8, 3) := by decide +kernel
theorem dL_changes_15 : decode cL_changes 15 = .ok (.goto 95, 3) := by decide +kernel
theorem dL_changes_18 : decode cL_changes 18 = .ok (.iload_n 1, 1) := by decide +kernel
theorem dL_changes_19 : decode cL_changes 19 = .ok (.iconst 1, 1) := by decide +kernel
theorem dL_changes_20 : decode cL_changes 20 = .ok (.if_icmp .ne 18, 3) := by decide +kernel
theorem dL_changes_23 : decode cL_changes 23 = .ok (.aload_n 0, 1) := by decide +kernel
theorem dL_changes_24 : decode cL_changes 24 = .ok (.iload_n 2, 1) := by decide +kernel
theorem dL_changes_25 : decode cL_changes 25 = .ok (.iload_n 3, 1) := by decide +kernel
theorem dL_changes_26 : decode cL_changes 26 = .ok (.iload 4, 2) := by decide +kernel
theorem dL_changes_28 : decode cL_changes 28 = .ok (.iload 4, 2) := by decide +kernel
theorem dL_changes_30 : decode cL_changes 30 = .ok (.iconst 5, 1) := by decide +kernel
theorem dL_changes_31 : decode cL_changes 31 = .ok (.iadd, 1) := by decide +kernel
theorem dL_changes_32 : decode cL_changes 32 = .ok (.invokevirtual 14, 3) := by decide +kernel
theorem dL_changes_35 : decode cL_changes 35 = .ok (.goto 75, 3) := by decide +kernel
theorem dL_changes_38 : decode cL_changes 38 = .ok (.iload_n 1, 1) := by decide +kernel
theorem dL_changes_39 : decode cL_changes 39 = .ok (.iconst 2, 1) := by decide +kernel
theorem dL_changes_40 : decode cL_changes 40 = .ok (.if_icmp .ne 11, 3) := by decide +kernel
theorem dL_changes_43 : decode cL_changes 43 = .ok (.aload_n 0, 1) := by decide +kernel
theorem dL_changes_44 : decode cL_changes 44 = .ok (.iload_n 2, 1) := by decide +kernel
theorem dL_changes_45 : decode cL_changes 45 = .ok (.invokevirtual 18, 3) := by decide +kernel
theorem dL_changes_48 : decode cL_changes 48 = .ok (.goto 62, 3) := by decide +kernel
theorem dL_changes_51 : decode cL_changes 51 = .ok (.iload_n 1, 1) := by decide +kernel
theorem dL_changes_52 : decode cL_changes 52 = .ok (.iconst 3, 1) := by decide +kernel
theorem dL_changes_53 : decode cL_changes 53 = .ok (.if_icmp .ne 11, 3) := by decide +kernel
theorem dL_changes_56 : decode cL_changes 56 = .ok (.aload_n 0, 1) := by decide +kernel
theorem dL_changes_57 : decode cL_changes 57 = .ok (.iload_n 2, 1) := by decide +kernel
theorem dL_changes_58 : decode cL_changes 58 = .ok (.invokevirtual 22, 3) := by decide +kernel
theorem dL_changes_61 : decode cL_changes 61 = .ok (.goto 49, 3) := by decide +kernel
theorem dL_changes_64 : decode cL_changes 64 = .ok (.iload_n 1, 1) := by decide +kernel
theorem dL_changes_65 : decode cL_changes 65 = .ok (.iconst 4, 1) := by decide +kernel
theorem dL_changes_66 : decode cL_changes 66 = .ok (.if_icmp .ne 11, 3) := by decide +kernel
theorem dL_changes_69 : decode cL_changes 69 = .ok (.aload_n 0, 1) := by decide +kernel
theorem dL_changes_70 : decode cL_changes 70 = .ok (.iload_n 2, 1) := by decide +kernel
theorem dL_changes_71 : decode cL_changes 71 = .ok (.invokevirtual 25, 3) := by decide +kernel
theorem dL_changes_74 : decode cL_changes 74 = .ok (.goto 36, 3) := by decide +kernel
theorem dL_changes_77 : decode cL_changes 77 = .ok (.iload_n 1, 1) := by decide +kernel
theorem dL_changes_78 : decode cL_changes 78 = .ok (.iconst 5, 1) := by decide +kernel
theorem dL_changes_79 : decode cL_changes 79 = .ok (.if_icmp .ne 11, 3) := by decide +kernel
theorem dL_changes_82 : decode cL_changes 82 = .ok (.aload_n 0, 1) := by decide +kernel
theorem dL_changes_83 : decode cL_changes 83 = .ok (.iload_n 2, 1) := by decide +kernel
theorem dL_changes_84 : decode cL_changes 84 = .ok (.invokevirtual 28, 3) := by decide +kernel
theorem dL_changes_87 : decode cL_changes 87 = .ok (.goto 23, 3) := by decide +kernel
theorem dL_changes_90 : decode cL_changes 90 = .ok (.iload_n 1, 1) := by decide +kernel
theorem dL_changes_91 : decode cL_changes 91 = .ok (.bipush 6, 2) := by decide +kernel
theorem dL_changes_93 : decode cL_changes 93 = .ok (.if_icmp .ne 11, 3) := by decide +kernel
theorem dL_changes_96 : decode cL_changes 96 = .ok (.aload_n 0, 1) := by decide +kernel
theorem dL_changes_97 : decode cL_changes 97 = .ok (.iload_n 2, 1) := by decide +kernel
theorem dL_changes_98 : decode cL_changes 98 = .ok (.invokevirtual 31, 3) := by decide +kernel
theorem dL_changes_101 : decode cL_changes 101 = .ok (.goto 9, 3) := by decide +kernel
theorem dL_changes_104 : decode cL_changes 104 = .ok (.aload_n 0, 1) := by decide +kernel
theorem dL_changes_105 : decode cL_changes 105 = .ok (.iload_n 2, 1) := by decide +kernel
theorem dL_changes_106 : decode cL_changes 106 = .ok (.iload_n 3, 1) := by decide +kernel
theorem dL_changes_107 : decode cL_changes 107 = .ok (.invokevirtual 34, 3) := by decide +kernel
theorem dL_changes_110 : decode cL_changes 110 = .ok (.iastore, 1) := by decide +kernel
theorem dL_changes_111 : decode cL_changes 111 = .ok (.goto 15, 3) := by decide +kernel
theorem dL_changes_114 : decode cL_changes 114 = .ok (.astore 6, 2) := by decide +kernel
theorem dL_changes_116 : decode cL_changes 116 = .ok (.iconst 1, 1) := by decide +kernel
theorem dL_changes_117 : decode cL_changes 117 = .ok (.ireturn, 1) := by decide +kernel
theorem dL_changes_118 : decode cL_changes 118 = .ok (.astore 6, 2) := by decide +kernel
theorem dL_changes_120 : decode cL_changes 120 = .ok (.iconst 2, 1) := by decide +kernel
theorem dL_changes_121 : decode cL_changes 121 = .ok (.ireturn, 1) := by decide +kernel
theorem dL_changes_122 : decode cL_changes 122 = .ok (.astore 6, 2) := by decide +kernel
theorem dL_changes_124 : decode cL_changes 124 = .ok (.iconst 3, 1) := by decide +kernel
theorem dL_changes_125 : decode cL_changes 125 = .ok (.ireturn, 1) := by decide +kernel
theorem dL_changes_126 : decode cL_changes 126 = .ok (.iconst 0, 1) := by decide +kernel
theorem dL_changes_127 : decode cL_changes 127 = .ok (.ireturn, 1) := by decide +kernel
set_option maxRecDepth 20000 in
theorem ggL_copies_X2_copy : GoodIn wsL_copies wsX2_copy := goodIn_ca (goodIn_ca (goodIn_r _ [7, 8, 9, 10, 11, 12, 13, 14, 6, 15, 16, 17, 18, 19, 20, 21, 22, 23, 24, 25, 26, 27, 28, 29, 30, 31, 32, 33, 34, 35, 36, 37, 38, 39, 40, 41, 42, 43, 44, 45, 46, 47, 48, 49, 50, 51, 52, 53, 54, 55, 56, 57, 58, 59, 60, 61, 62, 63, 64, 65, 66, 67, 68, 69, 70, 71, 72, 73, 74, 75, 76, 77, 78, 79, 80, 81, 82, 83, 84, 85, 86, 87, 88, 89, 90, 91, 92, 93, 94, 95, 96, 97, 98, 99, 100, 101, 102, 103, 104] rfl (by decide +kernel)) (goodIn_sub (fun _ h => List.mem_cons_of_mem _ (List.mem_append_left _ (List.mem_append_right _ h))) (by decide +kernel))) (goodIn_sub (fun _ h => List.mem_cons_of_mem _ (List.mem_append_right _ h)) (by decide +kernel))
set_option maxRecDepth 20000 in
theorem gL_copies_X2_copy : GoodIn wsL_copies (wsV RL 44 RX2 yX2_copy wsX2_copy) := goodIn_app (goodIn_r _ [3, 4, 5, 6] rfl (by decide +kernel)) ggL_copies_X2_copy
theorem dL_copies_0 : decode cL_copies 0 = .ok (.aload 5, 2) := by decide +kernel
theorem dL_copies_2 : decode cL_copies 2 = .ok (.iconst 0, 1) := by decide +kernel
theorem dL_copies_3 : decode cL_copies 3 = .ok (.aload_n 0, 1) := by decide +kernel
theorem dL_copies_4 : decode cL_copies 4 = .ok (.iload_n 1, 1) := by decide +kernel
theorem dL_copies_5 : decode cL_copies 5 = .ok (.iload_n 2, 1) := by decide +kernel
theorem dL_copies_6 : decode cL_copies 6 = .ok (.iload_n 3, 1) := by decide +kernel
theorem dL_copies_7 : decode cL_copies 7 = .ok (.iload 4, 2) := by decide +kernel
theorem dL_copies_9 : decode cL_copies 9 = .ok (.invokevirtual 44, 3) := by decide +kernel
theorem dL_copies_12 : decode cL_copies 12 = .ok (.iastore, 1) := by decide +kernel
theorem dL_copies_13 : decode cL_copies 13 = .ok (.goto 11, 3) := by decide +kernel
theorem dL_copies_16 : decode cL_copies 16 = .ok (.astore 6, 2) := by decide +kernel
theorem dL_copies_18 : decode cL_copies 18 = .ok (.iconst 1, 1) := by decide +kernel
theorem dL_copies_19 : decode cL_copies 19 = .ok (.ireturn, 1) := by decide +kernel
theorem dL_copies_20 : decode cL_copies 20 = .ok (.astore 6, 2) := by decide +kernel
theorem dL_copies_22 : decode cL_copies 22 = .ok (.iconst 2, 1) := by decide +kernel
theorem dL_copies_23 : decode cL_copies 23 = .ok (.ireturn, 1) := by decide +kernel
theorem dL_copies_24 : decode cL_copies 24 = .ok (.iconst 0, 1) := by decide +kernel
theorem dL_copies_25 : decode cL_copies 25 = .ok (.ireturn, 1) := by decide +kernel
set_option maxRecDepth 20000 in
theorem ggL_act_L_low : GoodIn wsL_act wsL_low := goodIn_r _ [4, 5] rfl (by decide +kernel)
set_option maxRecDepth 20000 in
theorem gL_act_L_low : GoodIn wsL_act (va_wsS RL 47 yL_low wsL_low) := goodIn_app (goodIn_r _ [1, 2, 3] rfl (by decide +kernel)) ggL_act_L_low
set_option maxRecDepth 20000 in
theorem ggL_act_L_changes : GoodIn wsL_act wsL_changes := goodIn_ca (goodIn_ca (goodIn_ca (goodIn_r _ [8, 9, 10, 11, 12, 13, 14, 15, 16, 17, 18, 19, 20, 21, 22, 23, 24, 25, 26, 27, 28, 29, 30, 31, 32, 33, 34, 35, 36, 37, 38, 39, 40, 41, 42, 43, 44, 45, 46, 47, 48, 49, 50, 51, 52, 53, 54, 55, 56, 57, 58, 59, 60, 61, 62, 63, 64, 65, 66, 67, 68, 69, 70, 71, 72, 73, 74, 75, 76, 77, 78, 79, 80, 81, 82, 83, 84, 85, 86, 87, 88, 89, 90, 91, 92, 93, 94, 95, 96, 97, 98, 99, 100, 101, 102, 103, 104, 105, 106, 107, 108, 109, 110, 111, 112, 113, 114, 115, 116, 117, 118, 119, 120, 121, 122, 123, 124, 125, 126, 127, 128, 129, 130, 131, 132, 133, 134, 135, 136, 137, 138, 139, 140, 141, 142, 143, 144, 145, 146, 147, 148, 149, 150, 151, 152, 153, 154, 155, 156, 157, 158, 159, 160, 161, 162, 163, 164, 165, 166, 167, 168, 169, 170, 171, 172, 173, 174, 175, 176, 177, 178, 179, 180, 192, 193, 194, 195, 196, 197, 198, 199, 200, 201, 202, 203, 204, 205, 206, 207, 208, 209, 210, 211, 212, 213, 214, 215, 216, 217, 218] rfl (by decide +kernel)) (goodIn_sub (fun _ h => List.mem_cons_of_mem _ (List.mem_append_left _ (List.mem_append_left _ (List.mem_append_right _ h)))) (by decide +kernel))) (goodIn_sub (fun _ h => List.mem_cons_of_mem _ (List.mem_append_left _ (List.mem_append_right _ h))) (by decide +kernel))) (goodIn_sub (fun _ h => List.mem_cons_of_mem _ (List.mem_append_right _ h)) (by decide +kernel))
set_option maxRecDepth 20000 in
theorem gL_act_L_changes : GoodIn wsL_act (va_wsS RL 52 yL_changes wsL_changes) := goodIn_app (goodIn_r _ [6, 7, 3] rfl (by decide +kernel)) ggL_act_L_changes
set_option maxRecDepth 20000 in
theorem ggL_act_L_copies : GoodIn wsL_act wsL_copies := goodIn_ca (goodIn_ca (goodIn_r _ [183, 9, 10, 184, 185, 186, 15, 187, 17, 18, 99, 100, 21, 25, 26, 27, 113, 114, 115, 57, 58, 59, 60, 61, 62, 63, 64, 65, 66, 31, 67, 42, 68, 69, 70, 71, 72, 73, 74, 75, 76, 33, 77, 78, 79, 80, 81, 82, 83, 84, 85, 86, 188, 189, 190, 191, 38, 39, 40, 41, 43, 44, 45, 46, 47, 48, 49, 91, 92, 93, 94, 50, 51, 52, 53, 54, 55, 56, 192, 193, 194, 195, 196, 197, 198, 199, 200, 201, 202, 203, 204, 205, 206, 207, 208, 209, 210, 211, 212, 213, 214, 215, 216, 217, 218] rfl (by decide +kernel)) (goodIn_sub (fun _ h => List.mem_cons_of_mem _ (List.mem_append_left _ (List.mem_append_left _ (List.mem_append_right _ h)))) (by decide +kernel))) (goodIn_sub (fun _ h => List.mem_cons_of_mem _ (List.mem_append_right _ h)) (by decide +kernel))
set_option maxRecDepth 20000 in
theorem gL_act_L_copies : GoodIn wsL_act (va_wsS RL 56 yL_copies wsL_copies) := goodIn_app (goodIn_r _ [181, 182, 3] rfl (by decide +kernel)) ggL_act_L_copies
theorem dL_act_0 : decode cL_act 0 = .ok (.iload_n 1, 1) := by decide +kernel
theorem dL_act_1 : decode cL_act 1 = .ok (.bipush 32, 2) := by decide +kernel
theorem dL_act_3 : decode cL_act 3 = .ok (.invokestatic 47, 3) := by decide +kernel
theorem dL_act_6 : decode cL_act 6 = .ok (.istore_n 3, 1) := by decide +kernel
theorem dL_act_7 : decode cL_act 7 = .ok (.iload_n 1, 1) := by decide +kernel
theorem dL_act_8 : decode cL_act 8 = .ok (.iconst 5, 1) := by decide +kernel
theorem dL_act_9 : decode cL_act 9 = .ok (.ishr, 1) := by decide +kernel
theorem dL_act_10 : decode cL_act 10 = .ok (.istore 4, 2) := by decide +kernel
theorem dL_act_12 : decode cL_act 12 = .ok (.iload_n 1, 1) := by decide +kernel
theorem dL_act_13 : decode cL_act 13 = .ok (.bipush 22, 2) := by decide +kernel
theorem dL_act_15 : decode cL_act 15 = .ok (.ishr, 1) := by decide +kernel
theorem dL_act_16 : decode cL_act 16 = .ok (.bipush 7, 2) := by decide +kernel
theorem dL_act_18 : decode cL_act 18 = .ok (.invokestatic 47, 3) := by decide +kernel
theorem dL_act_21 : decode cL_act 21 = .ok (.ifCond .le 7, 3) := by decide +kernel
theorem dL_act_24 : decode cL_act 24 = .ok (.iconst 1, 1) := by decide +kernel
theorem dL_act_25 : decode cL_act 25 = .ok (.goto 4, 3) := by decide +kernel
theorem dL_act_28 : decode cL_act 28 = .ok (.iconst 0, 1) := by decide +kernel
theorem dL_act_29 : decode cL_act 29 = .ok (.istore 5, 2) := by decide +kernel
theorem dL_act_31 : decode cL_act 31 = .ok (.iload_n 3, 1) := by decide +kernel
theorem dL_act_32 : decode cL_act 32 = .ok (.bipush 16, 2) := by decide +kernel
theorem dL_act_34 : decode cL_act 34 = .ok (.if_icmp .ge 77, 3) := by decide +kernel
theorem dL_act_37 : decode cL_act 37 = .ok (.aload_n 0, 1) := by decide +kernel
theorem dL_act_38 : decode cL_act 38 = .ok (.iload_n 3, 1) := by decide +kernel
theorem dL_act_39 : decode cL_act 39 = .ok (.bipush 15, 2) := by decide +kernel
theorem dL_act_41 : decode cL_act 41 = .ok (.if_icmp .ge 7, 3) := by decide +kernel
theorem dL_act_44 : decode cL_act 44 = .ok (.iconst 0, 1) := by decide +kernel
theorem dL_act_45 : decode cL_act 45 = .ok (.goto 4, 3) := by decide +kernel
theorem dL_act_48 : decode cL_act 48 = .ok (.iconst 1, 1) := by decide +kernel
theorem dL_act_49 : decode cL_act 49 = .ok (.iload 4, 2) := by decide +kernel
theorem dL_act_51 : decode cL_act 51 = .ok (.iload 5, 2) := by decide +kernel
theorem dL_act_53 : decode cL_act 53 = .ok (.ifCond .eq 7, 3) := by decide +kernel
theorem dL_act_56 : decode cL_act 56 = .ok (.iconst 3, 1) := by decide +kernel
theorem dL_act_57 : decode cL_act 57 = .ok (.goto 4, 3) := by decide +kernel
theorem dL_act_60 : decode cL_act 60 = .ok (.iconst 4, 1) := by decide +kernel
theorem dL_act_61 : decode cL_act 61 = .ok (.invokestatic 47, 3) := by decide +kernel
theorem dL_act_64 : decode cL_act 64 = .ok (.iload 4, 2) := by decide +kernel
theorem dL_act_66 : decode cL_act 66 = .ok (.iconst 2, 1) := by decide +kernel
theorem dL_act_67 : decode cL_act 67 = .ok (.ishr, 1) := by decide +kernel
theorem dL_act_68 : decode cL_act 68 = .ok (.iload 5, 2) := by decide +kernel
theorem dL_act_70 : decode cL_act 70 = .ok (.ifCond .eq 22, 3) := by decide +kernel
theorem dL_act_73 : decode cL_act 73 = .ok (.iload 4, 2) := by decide +kernel
theorem dL_act_75 : decode cL_act 75 = .ok (.bipush 11, 2) := by decide +kernel
theorem dL_act_77 : decode cL_act 77 = .ok (.ishr, 1) := by decide +kernel
theorem dL_act_78 : decode cL_act 78 = .ok (.iconst 1, 1) := by decide +kernel
theorem dL_act_79 : decode cL_act 79 = .ok (.iand, 1) := by decide +kernel
theorem dL_act_80 : decode cL_act 80 = .ok (.ifCond .ne 8, 3) := by decide +kernel
theorem dL_act_83 : decode cL_act 83 = .ok (.bipush 12, 2) := by decide +kernel
theorem dL_act_85 : decode cL_act 85 = .ok (.goto 9, 3) := by decide +kernel
theorem dL_act_88 : decode cL_act 88 = .ok (.iconst 3, 1) := by decide +kernel
theorem dL_act_89 : decode cL_act 89 = .ok (.goto 5, 3) := by decide +kernel
theorem dL_act_92 : decode cL_act 92 = .ok (.bipush 14, 2) := by decide +kernel
theorem dL_act_94 : decode cL_act 94 = .ok (.invokestatic 47, 3) := by decide +kernel
theorem dL_act_97 : decode cL_act 97 = .ok (.iload 4, 2) := by decide +kernel
theorem dL_act_99 : decode cL_act 99 = .ok (.iconst 5, 1) := by decide +kernel
theorem dL_act_100 : decode cL_act 100 = .ok (.ishr, 1) := by decide +kernel
theorem dL_act_101 : decode cL_act 101 = .ok (.bipush 32, 2) := by decide +kernel
theorem dL_act_103 : decode cL_act 103 = .ok (.invokestatic 47, 3) := by decide +kernel
theorem dL_act_106 : decode cL_act 106 = .ok (.aload_n 2, 1) := by decide +kernel
theorem dL_act_107 : decode cL_act 107 = .ok (.invokestatic 52, 3) := by decide +kernel
theorem dL_act_110 : decode cL_act 110 = .ok (.ireturn, 1) := by decide +kernel
theorem dL_act_111 : decode cL_act 111 = .ok (.iload_n 3, 1) := by decide +kernel
theorem dL_act_112 : decode cL_act 112 = .ok (.bipush 16, 2) := by decide +kernel
theorem dL_act_114 : decode cL_act 114 = .ok (.if_icmp .ne 74, 3) := by decide +kernel
theorem dL_act_117 : decode cL_act 117 = .ok (.aload_n 0, 1) := by decide +kernel
theorem dL_act_118 : decode cL_act 118 = .ok (.iload 4, 2) := by decide +kernel
theorem dL_act_120 : decode cL_act 120 = .ok (.iconst 3, 1) := by decide +kernel
theorem dL_act_121 : decode cL_act 121 = .ok (.invokestatic 47, 3) := by decide +kernel
theorem dL_act_124 : decode cL_act 124 = .ok (.iload 4, 2) := by decide +kernel
theorem dL_act_126 : decode cL_act 126 = .ok (.iconst 2, 1) := by decide +kernel
theorem dL_act_127 : decode cL_act 127 = .ok (.ishr, 1) := by decide +kernel
theorem dL_act_128 : decode cL_act 128 = .ok (.iload 5, 2) := by decide +kernel
theorem dL_act_130 : decode cL_act 130 = .ok (.ifCond .eq 7, 3) := by decide +kernel
theorem dL_act_133 : decode cL_act 133 = .ok (.iconst 3, 1) := by decide +kernel
theorem dL_act_134 : decode cL_act 134 = .ok (.goto 4, 3) := by decide +kernel
theorem dL_act_137 : decode cL_act 137 = .ok (.iconst 4, 1) := by decide +kernel
theorem dL_act_138 : decode cL_act 138 = .ok (.invokestatic 47, 3) := by decide +kernel
theorem dL_act_141 : decode cL_act 141 = .ok (.iload 4, 2) := by decide +kernel
theorem dL_act_143 : decode cL_act 143 = .ok (.iconst 4, 1) := by decide +kernel
theorem dL_act_144 : decode cL_act 144 = .ok (.ishr, 1) := by decide +kernel
theorem dL_act_145 : decode cL_act 145 = .ok (.iload 5, 2) := by decide +kernel
theorem dL_act_147 : decode cL_act 147 = .ok (.ifCond .eq 8, 3) := by decide +kernel
theorem dL_act_150 : decode cL_act 150 = .ok (.bipush 32, 2) := by decide +kernel
theorem dL_act_152 : decode cL_act 152 = .ok (.goto 5, 3) := by decide +kernel
theorem dL_act_155 : decode cL_act 155 = .ok (.bipush 40, 2) := by decide +kernel
theorem dL_act_157 : decode cL_act 157 = .ok (.invokestatic 47, 3) := by decide +kernel
theorem dL_act_160 : decode cL_act 160 = .ok (.iload 4, 2) := by decide +kernel
theorem dL_act_162 : decode cL_act 162 = .ok (.bipush 7, 2) := by decide +kernel
theorem dL_act_164 : decode cL_act 164 = .ok (.ishr, 1) := by decide +kernel
theorem dL_act_165 : decode cL_act 165 = .ok (.iload 5, 2) := by decide +kernel
theorem dL_act_167 : decode cL_act 167 = .ok (.ifCond .eq 8, 3) := by decide +kernel
theorem dL_act_170 : decode cL_act 170 = .ok (.bipush 23, 2) := by decide +kernel
theorem dL_act_172 : decode cL_act 172 = .ok (.goto 5, 3) := by decide +kernel
theorem dL_act_175 : decode cL_act 175 = .ok (.bipush 30, 2) := by decide +kernel
theorem dL_act_177 : decode cL_act 177 = .ok (.invokestatic 47, 3) := by decide +kernel
theorem dL_act_180 : decode cL_act 180 = .ok (.bipush 11, 2) := by decide +kernel
theorem dL_act_182 : decode cL_act 182 = .ok (.isub, 1) := by decide +kernel
theorem dL_act_183 : decode cL_act 183 = .ok (.aload_n 2, 1) := by decide +kernel
theorem dL_act_184 : decode cL_act 184 = .ok (.invokestatic 56, 3) := by decide +kernel
theorem dL_act_187 : decode cL_act 187 = .ok (.ireturn, 1) := by decide +kernel
theorem dL_act_188 : decode cL_act 188 = .ok (.iload_n 3, 1) := by decide +kernel
theorem dL_act_189 : decode cL_act 189 = .ok (.bipush 20, 2) := by decide +kernel
theorem dL_act_191 : decode cL_act 191 = .ok (.if_icmp .ge 42, 3) := by decide +kernel
theorem dL_act_194 : decode cL_act 194 = .ok (.aload_n 0, 1) := by decide +kernel
theorem dL_act_195 : decode cL_act 195 = .ok (.iconst 2, 1) := by decide +kernel
theorem dL_act_196 : decode cL_act 196 = .ok (.iload 5, 2) := by decide +kernel
theorem dL_act_198 : decode cL_act 198 = .ok (.ifCond .eq 7, 3) := by decide +kernel
theorem dL_act_201 : decode cL_act 201 = .ok (.iconst 1, 1) := by decide +kernel
theorem dL_act_202 : decode cL_act 202 = .ok (.goto 4, 3) := by decide +kernel
theorem dL_act_205 : decode cL_act 205 = .ok (.iconst 0, 1) := by decide +kernel
theorem dL_act_206 : decode cL_act 206 = .ok (.iload 4, 2) := by decide +kernel
theorem dL_act_208 : decode cL_act 208 = .ok (.iload 5, 2) := by decide +kernel
theorem dL_act_210 : decode cL_act 210 = .ok (.ifCond .eq 9, 3) := by decide +kernel
theorem dL_act_213 : decode cL_act 213 = .ok (.sipush 200, 3) := by decide +kernel
theorem dL_act_216 : decode cL_act 216 = .ok (.goto 6, 3) := by decide +kernel
theorem dL_act_219 : decode cL_act 219 = .ok (.sipush 420, 3) := by decide +kernel
theorem dL_act_222 : decode cL_act 222 = .ok (.invokestatic 47, 3) := by decide +kernel
theorem dL_act_225 : decode cL_act 225 = .ok (.iadd, 1) := by decide +kernel
theorem dL_act_226 : decode cL_act 226 = .ok (.iconst 0, 1) := by decide +kernel
theorem dL_act_227 : decode cL_act 227 = .ok (.iconst 0, 1) := by decide +kernel
theorem dL_act_228 : decode cL_act 228 = .ok (.aload_n 2, 1) := by decide +kernel
theorem dL_act_229 : decode cL_act 229 = .ok (.invokestatic 52, 3) := by decide +kernel
theorem dL_act_232 : decode cL_act 232 = .ok (.ireturn, 1) := by decide +kernel
theorem dL_act_233 : decode cL_act 233 = .ok (.iload_n 3, 1) := by decide +kernel
theorem dL_act_234 : decode cL_act 234 = .ok (.bipush 22, 2) := by decide +kernel
theorem dL_act_236 : decode cL_act 236 = .ok (.if_icmp .ge 48, 3) := by decide +kernel
theorem dL_act_239 : decode cL_act 239 = .ok (.aload_n 0, 1) := by decide +kernel
theorem dL_act_240 : decode cL_act 240 = .ok (.iload_n 3, 1) := by decide +kernel
theorem dL_act_241 : decode cL_act 241 = .ok (.bipush 20, 2) := by decide +kernel
theorem dL_act_243 : decode cL_act 243 = .ok (.if_icmp .ne 7, 3) := by decide +kernel
theorem dL_act_246 : decode cL_act 246 = .ok (.iconst 3, 1) := by decide +kernel
theorem dL_act_247 : decode cL_act 247 = .ok (.goto 4, 3) := by decide +kernel
theorem dL_act_250 : decode cL_act 250 = .ok (.iconst 4, 1) := by decide +kernel
theorem dL_act_251 : decode cL_act 251 = .ok (.iload 4, 2) := by decide +kernel
theorem dL_act_253 : decode cL_act 253 = .ok (.iload_n 3, 1) := by decide +kernel
theorem dL_act_254 : decode cL_act 254 = .ok (.bipush 20, 2) := by decide +kernel
theorem dL_act_256 : decode cL_act 256 = .ok (.if_icmp .ne 8, 3) := by decide +kernel
theorem dL_act_259 : decode cL_act 259 = .ok (.bipush 11, 2) := by decide +kernel
theorem dL_act_261 : decode cL_act 261 = .ok (.goto 13, 3) := by decide +kernel
theorem dL_act_264 : decode cL_act 264 = .ok (.iload 5, 2) := by decide +kernel
theorem dL_act_266 : decode cL_act 266 = .ok (.ifCond .eq 7, 3) := by decide +kernel
theorem dL_act_269 : decode cL_act 269 = .ok (.iconst 3, 1) := by decide +kernel
theorem dL_act_270 : decode cL_act 270 = .ok (.goto 4, 3) := by decide +kernel
theorem dL_act_273 : decode cL_act 273 = .ok (.iconst 4, 1) := by decide +kernel
theorem dL_act_274 : decode cL_act 274 = .ok (.invokestatic 47, 3) := by decide +kernel
theorem dL_act_277 : decode cL_act 277 = .ok (.iconst 0, 1) := by decide +kernel
theorem dL_act_278 : decode cL_act 278 = .ok (.iconst 0, 1) := by decide +kernel
theorem dL_act_279 : decode cL_act 279 = .ok (.aload_n 2, 1) := by decide +kernel
theorem dL_act_280 : decode cL_act 280 = .ok (.invokestatic 52, 3) := by decide +kernel
theorem dL_act_283 : decode cL_act 283 = .ok (.ireturn, 1) := by decide +kernel
theorem dL_act_284 : decode cL_act 284 = .ok (.iload_n 3, 1) := by decide +kernel
theorem dL_act_285 : decode cL_act 285 = .ok (.bipush 22, 2) := by decide +kernel
theorem dL_act_287 : decode cL_act 287 = .ok (.if_icmp .ne 32, 3) := by decide +kernel
theorem dL_act_290 : decode cL_act 290 = .ok (.aload_n 0, 1) := by decide +kernel
theorem dL_act_291 : decode cL_act 291 = .ok (.bipush 6, 2) := by decide +kernel
theorem dL_act_293 : decode cL_act 293 = .ok (.iload 4, 2) := by decide +kernel
theorem dL_act_295 : decode cL_act 295 = .ok (.iload 5, 2) := by decide +kernel
theorem dL_act_297 : decode cL_act 297 = .ok (.ifCond .eq 8, 3) := by decide +kernel
theorem dL_act_300 : decode cL_act 300 = .ok (.bipush 12, 2) := by decide +kernel
theorem dL_act_302 : decode cL_act 302 = .ok (.goto 5, 3) := by decide +kernel
theorem dL_act_305 : decode cL_act 305 = .ok (.bipush 14, 2) := by decide +kernel
theorem dL_act_307 : decode cL_act 307 = .ok (.invokestatic 47, 3) := by decide +kernel
theorem dL_act_310 : decode cL_act 310 = .ok (.iconst 0, 1) := by decide +kernel
theorem dL_act_311 : decode cL_act 311 = .ok (.iconst 0, 1) := by decide +kernel
theorem dL_act_312 : decode cL_act 312 = .ok (.aload_n 2, 1) := by decide +kernel
theorem dL_act_313 : decode cL_act 313 = .ok (.invokestatic 52, 3) := by decide +kernel
theorem dL_act_316 : decode cL_act 316 = .ok (.goto 81, 3) := by decide +kernel
theorem dL_act_319 : decode cL_act 319 = .ok (.iload_n 3, 1) := by decide +kernel
theorem dL_act_320 : decode cL_act 320 = .ok (.bipush 25, 2) := by decide +kernel
theorem dL_act_322 : decode cL_act 322 = .ok (.if_icmp .ge 49, 3) := by decide +kernel
theorem dL_act_325 : decode cL_act 325 = .ok (.aload_n 0, 1) := by decide +kernel
theorem dL_act_326 : decode cL_act 326 = .ok (.bipush 7, 2) := by decide +kernel
theorem dL_act_328 : decode cL_act 328 = .ok (.iload 4, 2) := by decide +kernel
theorem dL_act_330 : decode cL_act 330 = .ok (.iload 5, 2) := by decide +kernel
theorem dL_act_332 : decode cL_act 332 = .ok (.ifCond .eq 7, 3) := by decide +kernel
theorem dL_act_335 : decode cL_act 335 = .ok (.iconst 5, 1) := by decide +kernel
theorem dL_act_336 : decode cL_act 336 = .ok (.goto 5, 3) := by decide +kernel
theorem dL_act_339 : decode cL_act 339 = .ok (.bipush 6, 2) := by decide +kernel
theorem dL_act_341 : decode cL_act 341 = .ok (.invokestatic 47, 3) := by decide +kernel
theorem dL_act_344 : decode cL_act 344 = .ok (.iload 4, 2) := by decide +kernel
theorem dL_act_346 : decode cL_act 346 = .ok (.iconst 3, 1) := by decide +kernel
theorem dL_act_347 : decode cL_act 347 = .ok (.ishr, 1) := by decide +kernel
theorem dL_act_348 : decode cL_act 348 = .ok (.iload 5, 2) := by decide +kernel
theorem dL_act_350 : decode cL_act 350 = .ok (.ifCond .eq 8, 3) := by decide +kernel
theorem dL_act_353 : decode cL_act 353 = .ok (.bipush 13, 2) := by decide +kernel
theorem dL_act_355 : decode cL_act 355 = .ok (.goto 5, 3) := by decide +kernel
theorem dL_act_358 : decode cL_act 358 = .ok (.bipush 100, 2) := by decide +kernel
theorem dL_act_360 : decode cL_act 360 = .ok (.invokestatic 47, 3) := by decide +kernel
theorem dL_act_363 : decode cL_act 363 = .ok (.iconst 0, 1) := by decide +kernel
theorem dL_act_364 : decode cL_act 364 = .ok (.aload_n 2, 1) := by decide +kernel
theorem dL_act_365 : decode cL_act 365 = .ok (.invokestatic 52, 3) := by decide +kernel
theorem dL_act_368 : decode cL_act 368 = .ok (.goto 29, 3) := by decide +kernel
theorem dL_act_371 : decode cL_act 371 = .ok (.aload_n 0, 1) := by decide +kernel
theorem dL_act_372 : decode cL_act 372 = .ok (.iconst 5, 1) := by decide +kernel
theorem dL_act_373 : decode cL_act 373 = .ok (.iload 4, 2) := by decide +kernel
theorem dL_act_375 : decode cL_act 375 = .ok (.iload 5, 2) := by decide +kernel
theorem dL_act_377 : decode cL_act 377 = .ok (.ifCond .eq 8, 3) := by decide +kernel
theorem dL_act_380 : decode cL_act 380 = .ok (.bipush 40, 2) := by decide +kernel
theorem dL_act_382 : decode cL_act 382 = .ok (.goto 6, 3) := by decide +kernel
theorem dL_act_385 : decode cL_act 385 = .ok (.sipush 140, 3) := by decide +kernel
theorem dL_act_388 : decode cL_act 388 = .ok (.invokestatic 47, 3) := by decide +kernel
theorem dL_act_391 : decode cL_act 391 = .ok (.iconst 0, 1) := by decide +kernel
theorem dL_act_392 : decode cL_act 392 = .ok (.iconst 0, 1) := by decide +kernel
theorem dL_act_393 : decode cL_act 393 = .ok (.aload_n 2, 1) := by decide +kernel
theorem dL_act_394 : decode cL_act 394 = .ok (.invokestatic 52, 3) := by decide +kernel
theorem dL_act_397 : decode cL_act 397 = .ok (.ireturn, 1) := by decide +kernel
set_option maxRecDepth 20000 in
theorem ggL_areAlike_X2_clean : GoodIn wsL_areAlike wsX2_clean := goodIn_r _ [5, 6, 7, 8, 4, 9, 10, 11, 12, 13, 14, 137, 138, 139, 140, 141, 142, 143, 144, 145, 146, 147, 148, 149, 150, 151, 152, 153, 154, 155, 156, 157, 158, 159, 160, 161, 162, 163] rfl (by decide +kernel)
set_option maxRecDepth 20000 in
theorem gL_areAlike_X2_clean : GoodIn wsL_areAlike (wsV RL 59 RX2 yX2_clean wsX2_clean) := goodIn_app (goodIn_r _ [1, 2, 3, 4] rfl (by decide +kernel)) ggL_areAlike_X2_clean
set_option maxRecDepth 20000 in
theorem ggL_areAlike_X2_count : GoodIn wsL_areAlike wsX2_count := goodIn_ca (goodIn_r _ [18, 19, 20, 21, 22, 4, 23, 24, 25, 26, 27, 28, 10, 29, 30, 31, 32, 33, 34, 35, 36, 37, 38, 39, 40, 41, 42, 43, 44, 45, 46, 47, 48, 49, 50, 51, 52, 53, 12, 13, 14, 54, 55, 56, 57, 58, 59, 60, 61, 62, 63, 64, 65, 66, 67, 68, 69, 70, 71, 72, 73, 74, 75, 76, 77, 78, 79, 80, 81, 82, 137, 138, 139, 140, 141, 142, 143, 144, 145, 146, 147, 148, 149, 150, 151, 152, 153, 154, 155, 156, 157, 158, 159, 160, 161, 162, 163] rfl (by decide +kernel)) (goodIn_sub (fun _ h => List.mem_cons_of_mem _ (List.mem_append_left _ (List.mem_append_right _ h))) (by decide +kernel))
set_option maxRecDepth 20000 in
theorem gL_areAlike_X2_count : GoodIn wsL_areAlike (wsV RL 63 RX2 yX2_count wsX2_count) := goodIn_app (goodIn_r _ [15, 16, 17, 4] rfl (by decide +kernel)) ggL_areAlike_X2_count
set_option maxRecDepth 20000 in
theorem ggL_areAlike_X2_chord : GoodIn wsL_areAlike wsX2_chord := goodIn_ca (goodIn_r _ [86, 87, 88, 10, 21, 22, 4, 23, 89, 75, 76, 32, 77, 78, 137, 138, 139, 140, 141, 142, 143, 144, 145, 146, 147, 148, 149, 150, 151, 152, 153, 154, 155, 156, 157, 158, 159, 160, 161, 162, 163] rfl (by decide +kernel)) (goodIn_sub (fun _ h => List.mem_cons_of_mem _ (List.mem_append_right _ h)) (by decide +kernel))
