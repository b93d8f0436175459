set_option maxRecDepth 20000 in
theorem gL_areAlike_X2_chord : GoodIn wsL_areAlike (wsV RL 66 RX2 yX2_chord wsX2_chord) := goodIn_app (goodIn_r _ [83, 84, 85, 4] rfl (by decide +kernel)) ggL_areAlike_X2_chord
set_option maxRecDepth 20000 in
theorem ggL_areAlike_X2_tooth : GoodIn wsL_areAlike wsX2_tooth := goodIn_ca (goodIn_ca (goodIn_r _ [93, 87, 88, 19, 20, 10, 21, 22, 4, 23, 94, 95, 96, 32, 97, 98, 99, 35, 48, 49, 50, 51, 52, 38, 53, 12, 13, 14, 100, 101, 102, 103, 58, 104, 105, 106, 107, 108, 109, 110, 111, 74, 75, 76, 77, 78, 137, 138, 139, 140, 141, 142, 143, 144, 145, 146, 147, 148, 149, 150, 151, 152, 153, 154, 155, 156, 157, 158, 159, 160, 161, 162, 163] rfl (by decide +kernel)) (goodIn_sub (fun _ h => List.mem_cons_of_mem _ (List.mem_append_right _ h)) (by decide +kernel))) (goodIn_sub (fun _ h => List.mem_cons_of_mem _ (List.mem_append_left _ (List.mem_append_right _ h))) (by decide +kernel))
set_option maxRecDepth 20000 in
theorem gL_areAlike_X2_tooth : GoodIn wsL_areAlike (wsV RL 69 RX2 yX2_tooth wsX2_tooth) := goodIn_app (goodIn_r _ [90, 91, 92, 4] rfl (by decide +kernel)) ggL_areAlike_X2_tooth
set_option maxRecDepth 20000 in
theorem ggL_areAlike_X2_note : GoodIn wsL_areAlike wsX2_note := goodIn_ca (goodIn_r _ [115, 19, 20, 10, 21, 22, 4, 23, 116, 117, 118, 32, 119, 40, 120, 121, 13, 122, 123, 124, 125, 126, 127, 128, 129, 130, 131, 79, 80, 81, 82, 132, 133, 134, 135, 136, 137, 138, 139, 140, 141, 142, 143, 144, 145, 146, 147, 148, 149, 150, 151, 152, 153, 154, 155, 156, 157, 158, 159, 160, 161, 162, 163] rfl (by decide +kernel)) (goodIn_sub (fun _ h => List.mem_cons_of_mem _ (List.mem_append_left _ (List.mem_append_right _ h))) (by decide +kernel))
set_option maxRecDepth 20000 in
theorem gL_areAlike_X2_note : GoodIn wsL_areAlike (wsV RL 72 RX2 yX2_note wsX2_note) := goodIn_app (goodIn_r _ [112, 113, 114, 4] rfl (by decide +kernel)) ggL_areAlike_X2_note
theorem dL_areAlike_0 : decode cL_areAlike 0 = .ok (.aload_n 0, 1) := by decide +kernel
theorem dL_areAlike_1 : decode cL_areAlike 1 = .ok (.invokevirtual 59, 3) := by decide +kernel
theorem dL_areAlike_4 : decode cL_areAlike 4 = .ok (.aload_n 1, 1) := by decide +kernel
theorem dL_areAlike_5 : decode cL_areAlike 5 = .ok (.invokevirtual 59, 3) := by decide +kernel
theorem dL_areAlike_8 : decode cL_areAlike 8 = .ok (.dcmp .l, 1) := by decide +kernel
theorem dL_areAlike_9 : decode cL_areAlike 9 = .ok (.ifCond .ne 7, 3) := by decide +kernel
theorem dL_areAlike_12 : decode cL_areAlike 12 = .ok (.iconst 1, 1) := by decide +kernel
theorem dL_areAlike_13 : decode cL_areAlike 13 = .ok (.goto 4, 3) := by decide +kernel
theorem dL_areAlike_16 : decode cL_areAlike 16 = .ok (.iconst 0, 1) := by decide +kernel
theorem dL_areAlike_17 : decode cL_areAlike 17 = .ok (.istore_n 2, 1) := by decide +kernel
theorem dL_areAlike_18 : decode cL_areAlike 18 = .ok (.iconst 0, 1) := by decide +kernel
theorem dL_areAlike_19 : decode cL_areAlike 19 = .ok (.istore_n 3, 1) := by decide +kernel
theorem dL_areAlike_20 : decode cL_areAlike 20 = .ok (.iload_n 3, 1) := by decide +kernel
theorem dL_areAlike_21 : decode cL_areAlike 21 = .ok (.bipush 17, 2) := by decide +kernel
theorem dL_areAlike_23 : decode cL_areAlike 23 = .ok (.if_icmp .ge 32, 3) := by decide +kernel
theorem dL_areAlike_26 : decode cL_areAlike 26 = .ok (.iload_n 2, 1) := by decide +kernel
theorem dL_areAlike_27 : decode cL_areAlike 27 = .ok (.ifCond .eq 20, 3) := by decide +kernel
theorem dL_areAlike_30 : decode cL_areAlike 30 = .ok (.aload_n 0, 1) := by decide +kernel
theorem dL_areAlike_31 : decode cL_areAlike 31 = .ok (.iload_n 3, 1) := by decide +kernel
theorem dL_areAlike_32 : decode cL_areAlike 32 = .ok (.invokevirtual 63, 3) := by decide +kernel
theorem dL_areAlike_35 : decode cL_areAlike 35 = .ok (.aload_n 1, 1) := by decide +kernel
theorem dL_areAlike_36 : decode cL_areAlike 36 = .ok (.iload_n 3, 1) := by decide +kernel
theorem dL_areAlike_37 : decode cL_areAlike 37 = .ok (.invokevirtual 63, 3) := by decide +kernel
theorem dL_areAlike_40 : decode cL_areAlike 40 = .ok (.if_icmp .ne 7, 3) := by decide +kernel
theorem dL_areAlike_43 : decode cL_areAlike 43 = .ok (.iconst 1, 1) := by decide +kernel
theorem dL_areAlike_44 : decode cL_areAlike 44 = .ok (.goto 4, 3) := by decide +kernel
theorem dL_areAlike_47 : decode cL_areAlike 47 = .ok (.iconst 0, 1) := by decide +kernel
theorem dL_areAlike_48 : decode cL_areAlike 48 = .ok (.istore_n 2, 1) := by decide +kernel
theorem dL_areAlike_49 : decode cL_areAlike 49 = .ok (.iinc 3 1, 3) := by decide +kernel
theorem dL_areAlike_52 : decode cL_areAlike 52 = .ok (.goto (-32), 3) := by decide +kernel
theorem dL_areAlike_55 : decode cL_areAlike 55 = .ok (.iconst 0, 1) := by decide +kernel
theorem dL_areAlike_56 : decode cL_areAlike 56 = .ok (.istore_n 3, 1) := by decide +kernel
theorem dL_areAlike_57 : decode cL_areAlike 57 = .ok (.iload_n 3, 1) := by decide +kernel
theorem dL_areAlike_58 : decode cL_areAlike 58 = .ok (.bipush 96, 2) := by decide +kernel
theorem dL_areAlike_60 : decode cL_areAlike 60 = .ok (.if_icmp .ge 46, 3) := by decide +kernel
theorem dL_areAlike_63 : decode cL_areAlike 63 = .ok (.iload_n 2, 1) := by decide +kernel
theorem dL_areAlike_64 : decode cL_areAlike 64 = .ok (.ifCond .eq 34, 3) := by decide +kernel
theorem dL_areAlike_67 : decode cL_areAlike 67 = .ok (.aload_n 0, 1) := by decide +kernel
theorem dL_areAlike_68 : decode cL_areAlike 68 = .ok (.iload_n 3, 1) := by decide +kernel
theorem dL_areAlike_69 : decode cL_areAlike 69 = .ok (.bipush 32, 2) := by decide +kernel
theorem dL_areAlike_71 : decode cL_areAlike 71 = .ok (.idiv, 1) := by decide +kernel
theorem dL_areAlike_72 : decode cL_areAlike 72 = .ok (.iload_n 3, 1) := by decide +kernel
theorem dL_areAlike_73 : decode cL_areAlike 73 = .ok (.bipush 32, 2) := by decide +kernel
theorem dL_areAlike_75 : decode cL_areAlike 75 = .ok (.irem, 1) := by decide +kernel
theorem dL_areAlike_76 : decode cL_areAlike 76 = .ok (.invokevirtual 66, 3) := by decide +kernel
theorem dL_areAlike_79 : decode cL_areAlike 79 = .ok (.aload_n 1, 1) := by decide +kernel
theorem dL_areAlike_80 : decode cL_areAlike 80 = .ok (.iload_n 3, 1) := by decide +kernel
theorem dL_areAlike_81 : decode cL_areAlike 81 = .ok (.bipush 32, 2) := by decide +kernel
theorem dL_areAlike_83 : decode cL_areAlike 83 = .ok (.idiv, 1) := by decide +kernel
theorem dL_areAlike_84 : decode cL_areAlike 84 = .ok (.iload_n 3, 1) := by decide +kernel
theorem dL_areAlike_85 : decode cL_areAlike 85 = .ok (.bipush 32, 2) := by decide +kernel
theorem dL_areAlike_87 : decode cL_areAlike 87 = .ok (.irem, 1) := by decide +kernel
theorem dL_areAlike_88 : decode cL_areAlike 88 = .ok (.invokevirtual 66, 3) := by decide +kernel
theorem dL_areAlike_91 : decode cL_areAlike 91 = .ok (.if_icmp .ne 7, 3) := by decide +kernel
theorem dL_areAlike_94 : decode cL_areAlike 94 = .ok (.iconst 1, 1) := by decide +kernel
theorem dL_areAlike_95 : decode cL_areAlike 95 = .ok (.goto 4, 3) := by decide +kernel
theorem dL_areAlike_98 : decode cL_areAlike 98 = .ok (.iconst 0, 1) := by decide +kernel
theorem dL_areAlike_99 : decode cL_areAlike 99 = .ok (.istore_n 2, 1) := by decide +kernel
theorem dL_areAlike_100 : decode cL_areAlike 100 = .ok (.iinc 3 1, 3) := by decide +kernel
theorem dL_areAlike_103 : decode cL_areAlike 103 = .ok (.goto (-46), 3) := by decide +kernel
theorem dL_areAlike_106 : decode cL_areAlike 106 = .ok (.iconst 0, 1) := by decide +kernel
theorem dL_areAlike_107 : decode cL_areAlike 107 = .ok (.istore_n 3, 1) := by decide +kernel
theorem dL_areAlike_108 : decode cL_areAlike 108 = .ok (.iload_n 3, 1) := by decide +kernel
theorem dL_areAlike_109 : decode cL_areAlike 109 = .ok (.bipush 60, 2) := by decide +kernel
theorem dL_areAlike_111 : decode cL_areAlike 111 = .ok (.if_icmp .ge 42, 3) := by decide +kernel
theorem dL_areAlike_114 : decode cL_areAlike 114 = .ok (.iload_n 2, 1) := by decide +kernel
theorem dL_areAlike_115 : decode cL_areAlike 115 = .ok (.ifCond .eq 30, 3) := by decide +kernel
theorem dL_areAlike_118 : decode cL_areAlike 118 = .ok (.aload_n 0, 1) := by decide +kernel
theorem dL_areAlike_119 : decode cL_areAlike 119 = .ok (.iload_n 3, 1) := by decide +kernel
theorem dL_areAlike_120 : decode cL_areAlike 120 = .ok (.iconst 5, 1) := by decide +kernel
theorem dL_areAlike_121 : decode cL_areAlike 121 = .ok (.idiv, 1) := by decide +kernel
theorem dL_areAlike_122 : decode cL_areAlike 122 = .ok (.iload_n 3, 1) := by decide +kernel
theorem dL_areAlike_123 : decode cL_areAlike 123 = .ok (.iconst 5, 1) := by decide +kernel
theorem dL_areAlike_124 : decode cL_areAlike 124 = .ok (.irem, 1) := by decide +kernel
theorem dL_areAlike_125 : decode cL_areAlike 125 = .ok (.invokevirtual 69, 3) := by decide +kernel
theorem dL_areAlike_128 : decode cL_areAlike 128 = .ok (.aload_n 1, 1) := by decide +kernel
theorem dL_areAlike_129 : decode cL_areAlike 129 = .ok (.iload_n 3, 1) := by decide +kernel
theorem dL_areAlike_130 : decode cL_areAlike 130 = .ok (.iconst 5, 1) := by decide +kernel
theorem dL_areAlike_131 : decode cL_areAlike 131 = .ok (.idiv, 1) := by decide +kernel
theorem dL_areAlike_132 : decode cL_areAlike 132 = .ok (.iload_n 3, 1) := by decide +kernel
theorem dL_areAlike_133 : decode cL_areAlike 133 = .ok (.iconst 5, 1) := by decide +kernel
theorem dL_areAlike_134 : decode cL_areAlike 134 = .ok (.irem, 1) := by decide +kernel
theorem dL_areAlike_135 : decode cL_areAlike 135 = .ok (.invokevirtual 69, 3) := by decide +kernel
theorem dL_areAlike_138 : decode cL_areAlike 138 = .ok (.if_icmp .ne 7, 3) := by decide +kernel
theorem dL_areAlike_141 : decode cL_areAlike 141 = .ok (.iconst 1, 1) := by decide +kernel
theorem dL_areAlike_142 : decode cL_areAlike 142 = .ok (.goto 4, 3) := by decide +kernel
theorem dL_areAlike_145 : decode cL_areAlike 145 = .ok (.iconst 0, 1) := by decide +kernel
theorem dL_areAlike_146 : decode cL_areAlike 146 = .ok (.istore_n 2, 1) := by decide +kernel
theorem dL_areAlike_147 : decode cL_areAlike 147 = .ok (.iinc 3 1, 3) := by decide +kernel
theorem dL_areAlike_150 : decode cL_areAlike 150 = .ok (.goto (-42), 3) := by decide +kernel
theorem dL_areAlike_153 : decode cL_areAlike 153 = .ok (.iconst 0, 1) := by decide +kernel
theorem dL_areAlike_154 : decode cL_areAlike 154 = .ok (.istore_n 3, 1) := by decide +kernel
theorem dL_areAlike_155 : decode cL_areAlike 155 = .ok (.iload_n 3, 1) := by decide +kernel
theorem dL_areAlike_156 : decode cL_areAlike 156 = .ok (.bipush 48, 2) := by decide +kernel
theorem dL_areAlike_158 : decode cL_areAlike 158 = .ok (.if_icmp .ge 42, 3) := by decide +kernel
theorem dL_areAlike_161 : decode cL_areAlike 161 = .ok (.iload_n 2, 1) := by decide +kernel
theorem dL_areAlike_162 : decode cL_areAlike 162 = .ok (.ifCond .eq 30, 3) := by decide +kernel
theorem dL_areAlike_165 : decode cL_areAlike 165 = .ok (.aload_n 0, 1) := by decide +kernel
theorem dL_areAlike_166 : decode cL_areAlike 166 = .ok (.iload_n 3, 1) := by decide +kernel
theorem dL_areAlike_167 : decode cL_areAlike 167 = .ok (.iconst 2, 1) := by decide +kernel
theorem dL_areAlike_168 : decode cL_areAlike 168 = .ok (.idiv, 1) := by decide +kernel
theorem dL_areAlike_169 : decode cL_areAlike 169 = .ok (.iload_n 3, 1) := by decide +kernel
theorem dL_areAlike_170 : decode cL_areAlike 170 = .ok (.iconst 2, 1) := by decide +kernel
theorem dL_areAlike_171 : decode cL_areAlike 171 = .ok (.irem, 1) := by decide +kernel
theorem dL_areAlike_172 : decode cL_areAlike 172 = .ok (.invokevirtual 72, 3) := by decide +kernel
theorem dL_areAlike_175 : decode cL_areAlike 175 = .ok (.aload_n 1, 1) := by decide +kernel
theorem dL_areAlike_176 : decode cL_areAlike 176 = .ok (.iload_n 3, 1) := by decide +kernel
theorem dL_areAlike_177 : decode cL_areAlike 177 = .ok (.iconst 2, 1) := by decide +kernel
theorem dL_areAlike_178 : decode cL_areAlike 178 = .ok (.idiv, 1) := by decide +kernel
theorem dL_areAlike_179 : decode cL_areAlike 179 = .ok (.iload_n 3, 1) := by decide +kernel
theorem dL_areAlike_180 : decode cL_areAlike 180 = .ok (.iconst 2, 1) := by decide +kernel
theorem dL_areAlike_181 : decode cL_areAlike 181 = .ok (.irem, 1) := by decide +kernel
theorem dL_areAlike_182 : decode cL_areAlike 182 = .ok (.invokevirtual 72, 3) := by decide +kernel
theorem dL_areAlike_185 : decode cL_areAlike 185 = .ok (.if_icmp .ne 7, 3) := by decide +kernel
theorem dL_areAlike_188 : decode cL_areAlike 188 = .ok (.iconst 1, 1) := by decide +kernel
theorem dL_areAlike_189 : decode cL_areAlike 189 = .ok (.goto 4, 3) := by decide +kernel
theorem dL_areAlike_192 : decode cL_areAlike 192 = .ok (.iconst 0, 1) := by decide +kernel
theorem dL_areAlike_193 : decode cL_areAlike 193 = .ok (.istore_n 2, 1) := by decide +kernel
theorem dL_areAlike_194 : decode cL_areAlike 194 = .ok (.iinc 3 1, 3) := by decide +kernel
theorem dL_areAlike_197 : decode cL_areAlike 197 = .ok (.goto (-42), 3) := by decide +kernel
theorem dL_areAlike_200 : decode cL_areAlike 200 = .ok (.iload_n 2, 1) := by decide +kernel
theorem dL_areAlike_201 : decode cL_areAlike 201 = .ok (.ireturn, 1) := by decide +kernel
theorem dL_ones_0 : decode cL_ones 0 = .ok (.iconst 0, 1) := by decide +kernel
theorem dL_ones_1 : decode cL_ones 1 = .ok (.istore_n 1, 1) := by decide +kernel
theorem dL_ones_2 : decode cL_ones 2 = .ok (.iconst 0, 1) := by decide +kernel
theorem dL_ones_3 : decode cL_ones 3 = .ok (.istore_n 2, 1) := by decide +kernel
theorem dL_ones_4 : decode cL_ones 4 = .ok (.iload_n 2, 1) := by decide +kernel
theorem dL_ones_5 : decode cL_ones 5 = .ok (.bipush 12, 2) := by decide +kernel
theorem dL_ones_7 : decode cL_ones 7 = .ok (.if_icmp .ge 17, 3) := by decide +kernel
theorem dL_ones_10 : decode cL_ones 10 = .ok (.iload_n 1, 1) := by decide +kernel
theorem dL_ones_11 : decode cL_ones 11 = .ok (.iload_n 0, 1) := by decide +kernel
theorem dL_ones_12 : decode cL_ones 12 = .ok (.iload_n 2, 1) := by decide +kernel
theorem dL_ones_13 : decode cL_ones 13 = .ok (.ishr, 1) := by decide +kernel
theorem dL_ones_14 : decode cL_ones 14 = .ok (.iconst 1, 1) := by decide +kernel
theorem dL_ones_15 : decode cL_ones 15 = .ok (.iand, 1) := by decide +kernel
theorem dL_ones_16 : decode cL_ones 16 = .ok (.iadd, 1) := by decide +kernel
theorem dL_ones_17 : decode cL_ones 17 = .ok (.istore_n 1, 1) := by decide +kernel
theorem dL_ones_18 : decode cL_ones 18 = .ok (.iinc 2 1, 3) := by decide +kernel
theorem dL_ones_21 : decode cL_ones 21 = .ok (.goto (-17), 3) := by decide +kernel
theorem dL_ones_24 : decode cL_ones 24 = .ok (.iload_n 1, 1) := by decide +kernel
theorem dL_ones_25 : decode cL_ones 25 = .ok (.ireturn, 1) := by decide +kernel
set_option maxRecDepth 20000 in
theorem ggL_arePinsSo_X2_chord : GoodIn wsL_arePinsSo wsX2_chord := goodIn_ca (goodIn_r _ [5, 6, 7, 8, 9, 10, 4, 11, 12, 13, 14, 15, 16, 17, 131, 132, 133, 134, 135, 136, 137, 138, 139, 140, 141, 142, 143, 144, 145, 146, 147, 148, 149, 150, 151, 152, 153, 154, 155, 156, 157] rfl (by decide +kernel)) (goodIn_sub (fun _ h => List.mem_cons_of_mem _ (List.mem_append_left _ (List.mem_append_right _ h))) (by decide +kernel))
set_option maxRecDepth 20000 in
theorem gL_arePinsSo_X2_chord : GoodIn wsL_arePinsSo (wsV RL 66 RX2 yX2_chord wsX2_chord) := goodIn_app (goodIn_r _ [1, 2, 3, 4] rfl (by decide +kernel)) ggL_arePinsSo_X2_chord
set_option maxRecDepth 20000 in
theorem ggL_arePinsSo_L_ones : GoodIn wsL_arePinsSo wsL_ones := goodIn_r _ [21] rfl (by decide +kernel)
set_option maxRecDepth 20000 in
theorem gL_arePinsSo_L_ones : GoodIn wsL_arePinsSo (va_wsS RL 75 yL_ones wsL_ones) := goodIn_app (goodIn_r _ [18, 19, 20] rfl (by decide +kernel)) ggL_arePinsSo_L_ones
set_option maxRecDepth 20000 in
theorem ggL_arePinsSo_X2_count : GoodIn wsL_arePinsSo wsX2_count := goodIn_ca (goodIn_r _ [25, 26, 27, 9, 10, 4, 11, 28, 29, 30, 31, 32, 8, 33, 34, 35, 15, 36, 37, 38, 39, 40, 41, 42, 43, 44, 45, 46, 47, 48, 49, 50, 51, 52, 53, 54, 55, 56, 57, 58, 59, 60, 61, 62, 63, 64, 65, 66, 67, 68, 69, 70, 71, 72, 73, 74, 75, 76, 77, 78, 79, 80, 13, 14, 16, 17, 81, 82, 83, 84, 131, 132, 133, 134, 135, 136, 137, 138, 139, 140, 141, 142, 143, 144, 145, 146, 147, 148, 149, 150, 151, 152, 153, 154, 155, 156, 157] rfl (by decide +kernel)) (goodIn_sub (fun _ h => List.mem_cons_of_mem _ (List.mem_append_right _ h)) (by decide +kernel))
set_option maxRecDepth 20000 in
theorem gL_arePinsSo_X2_count : GoodIn wsL_arePinsSo (wsV RL 63 RX2 yX2_count wsX2_count) := goodIn_app (goodIn_r _ [22, 23, 24, 4] rfl (by decide +kernel)) ggL_arePinsSo_X2_count
set_option maxRecDepth 20000 in
theorem ggL_arePinsSo_X2_next : GoodIn wsL_arePinsSo wsX2_next := goodIn_ca (goodIn_r _ [88, 6, 7, 8, 89, 90, 4, 91, 9, 10, 11, 92, 93, 94, 15, 95, 96, 97, 98, 81, 82, 83, 84, 99, 100, 101, 102, 80, 13, 14, 16, 17, 131, 132, 133, 134, 135, 136, 137, 138, 139, 140, 141, 142, 143, 144, 145, 146, 147, 148, 149, 150, 151, 152, 153, 154, 155, 156, 157] rfl (by decide +kernel)) (goodIn_sub (fun _ h => List.mem_cons_of_mem _ (List.mem_append_left _ (List.mem_append_right _ h))) (by decide +kernel))
set_option maxRecDepth 20000 in
theorem gL_arePinsSo_X2_next : GoodIn wsL_arePinsSo (wsV RL 78 RX2 yX2_next wsX2_next) := goodIn_app (goodIn_r _ [85, 86, 87, 4] rfl (by decide +kernel)) ggL_arePinsSo_X2_next
set_option maxRecDepth 20000 in
theorem ggL_arePinsSo_X2_whyNot : GoodIn wsL_arePinsSo wsX2_whyNot := goodIn_ca (goodIn_r _ [106, 6, 7, 8, 89, 90, 4, 91, 9, 10, 11, 107, 108, 109, 15, 110, 46, 99, 100, 101, 102, 80, 13, 14, 16, 17, 96, 97, 98, 81, 82, 83, 84, 65, 66, 67, 68, 69, 70, 71, 131, 132, 133, 134, 135, 136, 137, 138, 139, 140, 141, 142, 143, 144, 145, 146, 147, 148, 149, 150, 151, 152, 153, 154, 155, 156, 157] rfl (by decide +kernel)) (goodIn_sub (fun _ h => List.mem_cons_of_mem _ (List.mem_append_left _ (List.mem_append_right _ h))) (by decide +kernel))
set_option maxRecDepth 20000 in
theorem gL_arePinsSo_X2_whyNot : GoodIn wsL_arePinsSo (wsV RL 81 RX2 yX2_whyNot wsX2_whyNot) := goodIn_app (goodIn_r _ [103, 104, 105, 4] rfl (by decide +kernel)) ggL_arePinsSo_X2_whyNot
set_option maxRecDepth 20000 in
theorem ggL_arePinsSo_X2_tune : GoodIn wsL_arePinsSo wsX2_tune := goodIn_ca (goodIn_ca (goodIn_r _ [114, 6, 7, 26, 27, 8, 9, 10, 4, 11, 115, 116, 117, 15, 118, 76, 77, 78, 79, 80, 13, 14, 16, 17, 65, 66, 67, 68, 69, 70, 71, 119, 120, 121, 122, 99, 100, 101, 102, 123, 124, 125, 126, 127, 128, 129, 130, 131, 132, 133, 134, 135, 136, 137, 138, 139, 140, 141, 142, 143, 144, 145, 146, 147, 148, 149, 150, 151, 152, 153, 154, 155, 156, 157] rfl (by decide +kernel)) (goodIn_sub (fun _ h => List.mem_cons_of_mem _ (List.mem_append_left _ (List.mem_append_right _ h))) (by decide +kernel))) (goodIn_sub (fun _ h => List.mem_cons_of_mem _ (List.mem_append_right _ h)) (by decide +kernel))
set_option maxRecDepth 20000 in
theorem gL_arePinsSo_X2_tune : GoodIn wsL_arePinsSo (wsV RL 84 RX2 yX2_tune wsX2_tune) := goodIn_app (goodIn_r _ [111, 112, 113, 4] rfl (by decide +kernel)) ggL_arePinsSo_X2_tune
theorem dL_arePinsSo_0 : decode cL_arePinsSo 0 = .ok (.iconst 0, 1) := by decide +kernel
theorem dL_arePinsSo_1 : decode cL_arePinsSo 1 = .ok (.istore 4, 2) := by decide +kernel
theorem dL_arePinsSo_3 : decode cL_arePinsSo 3 = .ok (.iconst 0, 1) := by decide +kernel
theorem dL_arePinsSo_4 : decode cL_arePinsSo 4 = .ok (.istore 5, 2) := by decide +kernel
theorem dL_arePinsSo_6 : decode cL_arePinsSo 6 = .ok (.iconst 0, 1) := by decide +kernel
theorem dL_arePinsSo_7 : decode cL_arePinsSo 7 = .ok (.istore 6, 2) := by decide +kernel
theorem dL_arePinsSo_9 : decode cL_arePinsSo 9 = .ok (.iconst (-1), 1) := by decide +kernel
theorem dL_arePinsSo_10 : decode cL_arePinsSo 10 = .ok (.istore 7, 2) := by decide +kernel
theorem dL_arePinsSo_12 : decode cL_arePinsSo 12 = .ok (.iconst 0, 1) := by decide +kernel
theorem dL_arePinsSo_13 : decode cL_arePinsSo 13 = .ok (.istore 8, 2) := by decide +kernel
theorem dL_arePinsSo_15 : decode cL_arePinsSo 15 = .ok (.iconst 1, 1) := by decide +kernel
theorem dL_arePinsSo_16 : decode cL_arePinsSo 16 = .ok (.istore 9, 2) := by decide +kernel
theorem dL_arePinsSo_18 : decode cL_arePinsSo 18 = .ok (.iconst 0, 1) := by decide +kernel
theorem dL_arePinsSo_19 : decode cL_arePinsSo 19 = .ok (.istore 10, 2) := by decide +kernel
theorem dL_arePinsSo_21 : decode cL_arePinsSo 21 = .ok (.iload 10, 2) := by decide +kernel
theorem dL_arePinsSo_23 : decode cL_arePinsSo 23 = .ok (.bipush 32, 2) := by decide +kernel
theorem dL_arePinsSo_25 : decode cL_arePinsSo 25 = .ok (.if_icmp .ge 156, 3) := by decide +kernel
theorem dL_arePinsSo_28 : decode cL_arePinsSo 28 = .ok (.aload_n 0, 1) := by decide +kernel
theorem dL_arePinsSo_29 : decode cL_arePinsSo 29 = .ok (.iload_n 1, 1) := by decide +kernel
theorem dL_arePinsSo_30 : decode cL_arePinsSo 30 = .ok (.iload 10, 2) := by decide +kernel
theorem dL_arePinsSo_32 : decode cL_arePinsSo 32 = .ok (.invokevirtual 66, 3) := by decide +kernel
theorem dL_arePinsSo_35 : decode cL_arePinsSo 35 = .ok (.istore 11, 2) := by decide +kernel
theorem dL_arePinsSo_37 : decode cL_arePinsSo 37 = .ok (.iload 4, 2) := by decide +kernel
theorem dL_arePinsSo_39 : decode cL_arePinsSo 39 = .ok (.iload 11, 2) := by decide +kernel
theorem dL_arePinsSo_41 : decode cL_arePinsSo 41 = .ok (.invokestatic 75, 3) := by decide +kernel
theorem dL_arePinsSo_44 : decode cL_arePinsSo 44 = .ok (.iadd, 1) := by decide +kernel
theorem dL_arePinsSo_45 : decode cL_arePinsSo 45 = .ok (.istore 4, 2) := by decide +kernel
theorem dL_arePinsSo_47 : decode cL_arePinsSo 47 = .ok (.iload 5, 2) := by decide +kernel
theorem dL_arePinsSo_49 : decode cL_arePinsSo 49 = .ok (.iload 11, 2) := by decide +kernel
theorem dL_arePinsSo_51 : decode cL_arePinsSo 51 = .ok (.ior, 1) := by decide +kernel
theorem dL_arePinsSo_52 : decode cL_arePinsSo 52 = .ok (.istore 5, 2) := by decide +kernel
theorem dL_arePinsSo_54 : decode cL_arePinsSo 54 = .ok (.iload 11, 2) := by decide +kernel
theorem dL_arePinsSo_56 : decode cL_arePinsSo 56 = .ok (.invokestatic 75, 3) := by decide +kernel
theorem dL_arePinsSo_59 : decode cL_arePinsSo 59 = .ok (.iload 6, 2) := by decide +kernel
theorem dL_arePinsSo_61 : decode cL_arePinsSo 61 = .ok (.if_icmp .gt 8, 3) := by decide +kernel
theorem dL_arePinsSo_64 : decode cL_arePinsSo 64 = .ok (.iload 7, 2) := by decide +kernel
theorem dL_arePinsSo_66 : decode cL_arePinsSo 66 = .ok (.ifCond .ge 8, 3) := by decide +kernel
theorem dL_arePinsSo_69 : decode cL_arePinsSo 69 = .ok (.iload 10, 2) := by decide +kernel
theorem dL_arePinsSo_71 : decode cL_arePinsSo 71 = .ok (.goto 5, 3) := by decide +kernel
theorem dL_arePinsSo_74 : decode cL_arePinsSo 74 = .ok (.iload 7, 2) := by decide +kernel
theorem dL_arePinsSo_76 : decode cL_arePinsSo 76 = .ok (.istore 7, 2) := by decide +kernel
theorem dL_arePinsSo_78 : decode cL_arePinsSo 78 = .ok (.iload 11, 2) := by decide +kernel
theorem dL_arePinsSo_80 : decode cL_arePinsSo 80 = .ok (.invokestatic 75, 3) := by decide +kernel
theorem dL_arePinsSo_83 : decode cL_arePinsSo 83 = .ok (.iload 6, 2) := by decide +kernel
theorem dL_arePinsSo_85 : decode cL_arePinsSo 85 = .ok (.if_icmp .le 11, 3) := by decide +kernel
theorem dL_arePinsSo_88 : decode cL_arePinsSo 88 = .ok (.iload 11, 2) := by decide +kernel
theorem dL_arePinsSo_90 : decode cL_arePinsSo 90 = .ok (.invokestatic 75, 3) := by decide +kernel
theorem dL_arePinsSo_93 : decode cL_arePinsSo 93 = .ok (.goto 5, 3) := by decide +kernel
theorem dL_arePinsSo_96 : decode cL_arePinsSo 96 = .ok (.iload 6, 2) := by decide +kernel
theorem dL_arePinsSo_98 : decode cL_arePinsSo 98 = .ok (.istore 6, 2) := by decide +kernel
theorem dL_arePinsSo_100 : decode cL_arePinsSo 100 = .ok (.iload 10, 2) := by decide +kernel
theorem dL_arePinsSo_102 : decode cL_arePinsSo 102 = .ok (.iload_n 3, 1) := by decide +kernel
theorem dL_arePinsSo_103 : decode cL_arePinsSo 103 = .ok (.if_icmp .le 10, 3) := by decide +kernel
theorem dL_arePinsSo_106 : decode cL_arePinsSo 106 = .ok (.iload 10, 2) := by decide +kernel
theorem dL_arePinsSo_108 : decode cL_arePinsSo 108 = .ok (.iload_n 3, 1) := by decide +kernel
theorem dL_arePinsSo_109 : decode cL_arePinsSo 109 = .ok (.isub, 1) := by decide +kernel
theorem dL_arePinsSo_110 : decode cL_arePinsSo 110 = .ok (.goto 7, 3) := by decide +kernel
theorem dL_arePinsSo_113 : decode cL_arePinsSo 113 = .ok (.iload_n 3, 1) := by decide +kernel
theorem dL_arePinsSo_114 : decode cL_arePinsSo 114 = .ok (.iload 10, 2) := by decide +kernel
theorem dL_arePinsSo_116 : decode cL_arePinsSo 116 = .ok (.isub, 1) := by decide +kernel
theorem dL_arePinsSo_117 : decode cL_arePinsSo 117 = .ok (.istore 12, 2) := by decide +kernel
theorem dL_arePinsSo_119 : decode cL_arePinsSo 119 = .ok (.iload 12, 2) := by decide +kernel
theorem dL_arePinsSo_121 : decode cL_arePinsSo 121 = .ok (.bipush 16, 2) := by decide +kernel
theorem dL_arePinsSo_123 : decode cL_arePinsSo 123 = .ok (.if_icmp .le 11, 3) := by decide +kernel
theorem dL_arePinsSo_126 : decode cL_arePinsSo 126 = .ok (.bipush 32, 2) := by decide +kernel
theorem dL_arePinsSo_128 : decode cL_arePinsSo 128 = .ok (.iload 12, 2) := by decide +kernel
theorem dL_arePinsSo_130 : decode cL_arePinsSo 130 = .ok (.isub, 1) := by decide +kernel
theorem dL_arePinsSo_131 : decode cL_arePinsSo 131 = .ok (.goto 5, 3) := by decide +kernel
theorem dL_arePinsSo_134 : decode cL_arePinsSo 134 = .ok (.iload 12, 2) := by decide +kernel
theorem dL_arePinsSo_136 : decode cL_arePinsSo 136 = .ok (.istore 12, 2) := by decide +kernel
theorem dL_arePinsSo_138 : decode cL_arePinsSo 138 = .ok (.iload 8, 2) := by decide +kernel
theorem dL_arePinsSo_140 : decode cL_arePinsSo 140 = .ok (.iload 10, 2) := by decide +kernel
theorem dL_arePinsSo_142 : decode cL_arePinsSo 142 = .ok (.iload_n 3, 1) := by decide +kernel
theorem dL_arePinsSo_143 : decode cL_arePinsSo 143 = .ok (.if_icmp .eq 28, 3) := by decide +kernel
theorem dL_arePinsSo_146 : decode cL_arePinsSo 146 = .ok (.iload 12, 2) := by decide +kernel
theorem dL_arePinsSo_148 : decode cL_arePinsSo 148 = .ok (.aload_n 0, 1) := by decide +kernel
theorem dL_arePinsSo_149 : decode cL_arePinsSo 149 = .ok (.bipush 15, 2) := by decide +kernel
theorem dL_arePinsSo_151 : decode cL_arePinsSo 151 = .ok (.invokevirtual 63, 3) := by decide +kernel
theorem dL_arePinsSo_154 : decode cL_arePinsSo 154 = .ok (.if_icmp .ge 17, 3) := by decide +kernel
theorem dL_arePinsSo_157 : decode cL_arePinsSo 157 = .ok (.iload 11, 2) := by decide +kernel
theorem dL_arePinsSo_159 : decode cL_arePinsSo 159 = .ok (.iload_n 2, 1) := by decide +kernel
theorem dL_arePinsSo_160 : decode cL_arePinsSo 160 = .ok (.ishr, 1) := by decide +kernel
theorem dL_arePinsSo_161 : decode cL_arePinsSo 161 = .ok (.iconst 1, 1) := by decide +kernel
theorem dL_arePinsSo_162 : decode cL_arePinsSo 162 = .ok (.iand, 1) := by decide +kernel
theorem dL_arePinsSo_163 : decode cL_arePinsSo 163 = .ok (.iconst 1, 1) := by decide +kernel
theorem dL_arePinsSo_164 : decode cL_arePinsSo 164 = .ok (.if_icmp .ne 7, 3) := by decide +kernel
theorem dL_arePinsSo_167 : decode cL_arePinsSo 167 = .ok (.iconst 1, 1) := by decide +kernel
theorem dL_arePinsSo_168 : decode cL_arePinsSo 168 = .ok (.goto 4, 3) := by decide +kernel
theorem dL_arePinsSo_171 : decode cL_arePinsSo 171 = .ok (.iconst 0, 1) := by decide +kernel
theorem dL_arePinsSo_172 : decode cL_arePinsSo 172 = .ok (.iadd, 1) := by decide +kernel
theorem dL_arePinsSo_173 : decode cL_arePinsSo 173 = .ok (.istore 8, 2) := by decide +kernel
theorem dL_arePinsSo_175 : decode cL_arePinsSo 175 = .ok (.iinc 10 1, 3) := by decide +kernel
theorem dL_arePinsSo_178 : decode cL_arePinsSo 178 = .ok (.goto (-157), 3) := by decide +kernel
theorem dL_arePinsSo_181 : decode cL_arePinsSo 181 = .ok (.aload_n 0, 1) := by decide +kernel
theorem dL_arePinsSo_182 : decode cL_arePinsSo 182 = .ok (.iload_n 1, 1) := by decide +kernel
theorem dL_arePinsSo_183 : decode cL_arePinsSo 183 = .ok (.iload_n 3, 1) := by decide +kernel
theorem dL_arePinsSo_184 : decode cL_arePinsSo 184 = .ok (.invokevirtual 66, 3) := by decide +kernel
theorem dL_arePinsSo_187 : decode cL_arePinsSo 187 = .ok (.iload_n 2, 1) := by decide +kernel
theorem dL_arePinsSo_188 : decode cL_arePinsSo 188 = .ok (.ishr, 1) := by decide +kernel
theorem dL_arePinsSo_189 : decode cL_arePinsSo 189 = .ok (.iconst 1, 1) := by decide +kernel
theorem dL_arePinsSo_190 : decode cL_arePinsSo 190 = .ok (.iand, 1) := by decide +kernel
theorem dL_arePinsSo_191 : decode cL_arePinsSo 191 = .ok (.iconst 1, 1) := by decide +kernel
theorem dL_arePinsSo_192 : decode cL_arePinsSo 192 = .ok (.if_icmp .ne 7, 3) := by decide +kernel
theorem dL_arePinsSo_195 : decode cL_arePinsSo 195 = .ok (.iconst 1, 1) := by decide +kernel
theorem dL_arePinsSo_196 : decode cL_arePinsSo 196 = .ok (.goto 4, 3) := by decide +kernel
theorem dL_arePinsSo_199 : decode cL_arePinsSo 199 = .ok (.iconst 0, 1) := by decide +kernel
theorem dL_arePinsSo_200 : decode cL_arePinsSo 200 = .ok (.istore 10, 2) := by decide +kernel
theorem dL_arePinsSo_202 : decode cL_arePinsSo 202 = .ok (.iload 10, 2) := by decide +kernel
theorem dL_arePinsSo_204 : decode cL_arePinsSo 204 = .ok (.ifCond .eq 7, 3) := by decide +kernel
theorem dL_arePinsSo_207 : decode cL_arePinsSo 207 = .ok (.iconst 1, 1) := by decide +kernel
theorem dL_arePinsSo_208 : decode cL_arePinsSo 208 = .ok (.goto 35, 3) := by decide +kernel
theorem dL_arePinsSo_211 : decode cL_arePinsSo 211 = .ok (.iload 8, 2) := by decide +kernel
theorem dL_arePinsSo_213 : decode cL_arePinsSo 213 = .ok (.ifCond .le 7, 3) := by decide +kernel
theorem dL_arePinsSo_216 : decode cL_arePinsSo 216 = .ok (.iconst 2, 1) := by decide +kernel
theorem dL_arePinsSo_217 : decode cL_arePinsSo 217 = .ok (.goto 26, 3) := by decide +kernel
theorem dL_arePinsSo_220 : decode cL_arePinsSo 220 = .ok (.aload_n 0, 1) := by decide +kernel
theorem dL_arePinsSo_221 : decode cL_arePinsSo 221 = .ok (.iload_n 1, 1) := by decide +kernel
theorem dL_arePinsSo_222 : decode cL_arePinsSo 222 = .ok (.iload_n 3, 1) := by decide +kernel
theorem dL_arePinsSo_223 : decode cL_arePinsSo 223 = .ok (.invokevirtual 66, 3) := by decide +kernel
theorem dL_arePinsSo_226 : decode cL_arePinsSo 226 = .ok (.invokestatic 75, 3) := by decide +kernel
theorem dL_arePinsSo_229 : decode cL_arePinsSo 229 = .ok (.aload_n 0, 1) := by decide +kernel
theorem dL_arePinsSo_230 : decode cL_arePinsSo 230 = .ok (.bipush 16, 2) := by decide +kernel
theorem dL_arePinsSo_232 : decode cL_arePinsSo 232 = .ok (.invokevirtual 63, 3) := by decide +kernel
theorem dL_arePinsSo_235 : decode cL_arePinsSo 235 = .ok (.if_icmp .lt 7, 3) := by decide +kernel
theorem dL_arePinsSo_238 : decode cL_arePinsSo 238 = .ok (.iconst 3, 1) := by decide +kernel
theorem dL_arePinsSo_239 : decode cL_arePinsSo 239 = .ok (.goto 4, 3) := by decide +kernel
theorem dL_arePinsSo_242 : decode cL_arePinsSo 242 = .ok (.iconst 0, 1) := by decide +kernel
theorem dL_arePinsSo_243 : decode cL_arePinsSo 243 = .ok (.istore 11, 2) := by decide +kernel
theorem dL_arePinsSo_245 : decode cL_arePinsSo 245 = .ok (.aload_n 0, 1) := by decide +kernel
theorem dL_arePinsSo_246 : decode cL_arePinsSo 246 = .ok (.iload_n 1, 1) := by decide +kernel
theorem dL_arePinsSo_247 : decode cL_arePinsSo 247 = .ok (.iload_n 2, 1) := by decide +kernel
theorem dL_arePinsSo_248 : decode cL_arePinsSo 248 = .ok (.iload_n 3, 1) := by decide +kernel
theorem dL_arePinsSo_249 : decode cL_arePinsSo 249 = .ok (.invokevirtual 78, 3) := by decide +kernel
theorem dL_arePinsSo_252 : decode cL_arePinsSo 252 = .ok (.istore 12, 2) := by decide +kernel
theorem dL_arePinsSo_254 : decode cL_arePinsSo 254 = .ok (.iload 12, 2) := by decide +kernel
theorem dL_arePinsSo_256 : decode cL_arePinsSo 256 = .ok (.iconst (-1), 1) := by decide +kernel
theorem dL_arePinsSo_257 : decode cL_arePinsSo 257 = .ok (.if_icmp .ne 20, 3) := by decide +kernel
theorem dL_arePinsSo_260 : decode cL_arePinsSo 260 = .ok (.iload 5, 2) := by decide +kernel
theorem dL_arePinsSo_262 : decode cL_arePinsSo 262 = .ok (.iload_n 2, 1) := by decide +kernel
theorem dL_arePinsSo_263 : decode cL_arePinsSo 263 = .ok (.ishr, 1) := by decide +kernel
theorem dL_arePinsSo_264 : decode cL_arePinsSo 264 = .ok (.iconst 1, 1) := by decide +kernel
theorem dL_arePinsSo_265 : decode cL_arePinsSo 265 = .ok (.iand, 1) := by decide +kernel
theorem dL_arePinsSo_266 : decode cL_arePinsSo 266 = .ok (.ifCond .ne 7, 3) := by decide +kernel
theorem dL_arePinsSo_269 : decode cL_arePinsSo 269 = .ok (.iconst 1, 1) := by decide +kernel
theorem dL_arePinsSo_270 : decode cL_arePinsSo 270 = .ok (.goto 27, 3) := by decide +kernel
theorem dL_arePinsSo_273 : decode cL_arePinsSo 273 = .ok (.iconst 0, 1) := by decide +kernel
theorem dL_arePinsSo_274 : decode cL_arePinsSo 274 = .ok (.goto 23, 3) := by decide +kernel
theorem dL_arePinsSo_277 : decode cL_arePinsSo 277 = .ok (.aload_n 0, 1) := by decide +kernel
theorem dL_arePinsSo_278 : decode cL_arePinsSo 278 = .ok (.iload_n 1, 1) := by decide +kernel
theorem dL_arePinsSo_279 : decode cL_arePinsSo 279 = .ok (.iload 12, 2) := by decide +kernel
theorem dL_arePinsSo_281 : decode cL_arePinsSo 281 = .ok (.invokevirtual 66, 3) := by decide +kernel
theorem dL_arePinsSo_284 : decode cL_arePinsSo 284 = .ok (.iload_n 2, 1) := by decide +kernel
theorem dL_arePinsSo_285 : decode cL_arePinsSo 285 = .ok (.ishr, 1) := by decide +kernel
theorem dL_arePinsSo_286 : decode cL_arePinsSo 286 = .ok (.iconst 1, 1) := by decide +kernel
theorem dL_arePinsSo_287 : decode cL_arePinsSo 287 = .ok (.iand, 1) := by decide +kernel
theorem dL_arePinsSo_288 : decode cL_arePinsSo 288 = .ok (.iconst 1, 1) := by decide +kernel
theorem dL_arePinsSo_289 : decode cL_arePinsSo 289 = .ok (.if_icmp .ne 7, 3) := by decide +kernel
theorem dL_arePinsSo_292 : decode cL_arePinsSo 292 = .ok (.iconst 1, 1) := by decide +kernel
theorem dL_arePinsSo_293 : decode cL_arePinsSo 293 = .ok (.goto 4, 3) := by decide +kernel
theorem dL_arePinsSo_296 : decode cL_arePinsSo 296 = .ok (.iconst 0, 1) := by decide +kernel
theorem dL_arePinsSo_297 : decode cL_arePinsSo 297 = .ok (.istore 9, 2) := by decide +kernel
theorem dL_arePinsSo_299 : decode cL_arePinsSo 299 = .ok (.iload_n 3, 1) := by decide +kernel
theorem dL_arePinsSo_300 : decode cL_arePinsSo 300 = .ok (.istore 13, 2) := by decide +kernel
theorem dL_arePinsSo_302 : decode cL_arePinsSo 302 = .ok (.iload 12, 2) := by decide +kernel
theorem dL_arePinsSo_304 : decode cL_arePinsSo 304 = .ok (.ifCond .lt 48, 3) := by decide +kernel
theorem dL_arePinsSo_307 : decode cL_arePinsSo 307 = .ok (.iload 13, 2) := by decide +kernel
theorem dL_arePinsSo_309 : decode cL_arePinsSo 309 = .ok (.bipush 32, 2) := by decide +kernel
theorem dL_arePinsSo_311 : decode cL_arePinsSo 311 = .ok (.irem, 1) := by decide +kernel
theorem dL_arePinsSo_312 : decode cL_arePinsSo 312 = .ok (.iload 12, 2) := by decide +kernel
theorem dL_arePinsSo_314 : decode cL_arePinsSo 314 = .ok (.if_icmp .eq 38, 3) := by decide +kernel
theorem dL_arePinsSo_317 : decode cL_arePinsSo 317 = .ok (.iload 9, 2) := by decide +kernel
theorem dL_arePinsSo_319 : decode cL_arePinsSo 319 = .ok (.ifCond .eq 24, 3) := by decide +kernel
theorem dL_arePinsSo_322 : decode cL_arePinsSo 322 = .ok (.aload_n 0, 1) := by decide +kernel
theorem dL_arePinsSo_323 : decode cL_arePinsSo 323 = .ok (.iload_n 1, 1) := by decide +kernel
theorem dL_arePinsSo_324 : decode cL_arePinsSo 324 = .ok (.iload 13, 2) := by decide +kernel
theorem dL_arePinsSo_326 : decode cL_arePinsSo 326 = .ok (.bipush 32, 2) := by decide +kernel
theorem dL_arePinsSo_328 : decode cL_arePinsSo 328 = .ok (.irem, 1) := by decide +kernel
theorem dL_arePinsSo_329 : decode cL_arePinsSo 329 = .ok (.invokevirtual 66, 3) := by decide +kernel
theorem dL_arePinsSo_332 : decode cL_arePinsSo 332 = .ok (.iload_n 2, 1) := by decide +kernel
theorem dL_arePinsSo_333 : decode cL_arePinsSo 333 = .ok (.ishr, 1) := by decide +kernel
theorem dL_arePinsSo_334 : decode cL_arePinsSo 334 = .ok (.iconst 1, 1) := by decide +kernel
theorem dL_arePinsSo_335 : decode cL_arePinsSo 335 = .ok (.iand, 1) := by decide +kernel
theorem dL_arePinsSo_336 : decode cL_arePinsSo 336 = .ok (.ifCond .ne 7, 3) := by decide +kernel
theorem dL_arePinsSo_339 : decode cL_arePinsSo 339 = .ok (.iconst 1, 1) := by decide +kernel
theorem dL_arePinsSo_340 : decode cL_arePinsSo 340 = .ok (.goto 4, 3) := by decide +kernel
theorem dL_arePinsSo_343 : decode cL_arePinsSo 343 = .ok (.iconst 0, 1) := by decide +kernel
theorem dL_arePinsSo_344 : decode cL_arePinsSo 344 = .ok (.istore 9, 2) := by decide +kernel
theorem dL_arePinsSo_346 : decode cL_arePinsSo 346 = .ok (.iinc 13 1, 3) := by decide +kernel
theorem dL_arePinsSo_349 : decode cL_arePinsSo 349 = .ok (.goto (-47), 3) := by decide +kernel
theorem dL_arePinsSo_352 : decode cL_arePinsSo 352 = .ok (.iload 9, 2) := by decide +kernel
theorem dL_arePinsSo_354 : decode cL_arePinsSo 354 = .ok (.ifCond .eq 103, 3) := by decide +kernel
theorem dL_arePinsSo_357 : decode cL_arePinsSo 357 = .ok (.aload_n 0, 1) := by decide +kernel
