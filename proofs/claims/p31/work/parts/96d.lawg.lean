set_option maxRecDepth 20000 in
theorem ggL_isStepSo_X2_play : GoodIn wsL_isStepSo wsX2_play := goodIn_ca (goodIn_r _ [172, 6, 7, 16, 107, 108, 4, 109, 173, 174, 175, 176, 177, 178, 15, 115, 116, 117, 20, 118, 69, 119, 120, 121, 122, 40, 89, 90, 123, 124, 31, 49, 22, 23, 24, 25, 26, 27, 28, 29, 30, 125, 126, 127, 128, 129, 130, 131, 132, 41, 42, 43, 44, 133, 134, 135, 70, 71, 72, 73, 136, 137, 138, 139, 65, 66, 67, 68, 140, 141, 142, 143, 50, 51, 52, 53, 54, 55, 56, 144, 145, 146, 147, 36, 37, 38, 39, 148, 149, 150, 151, 91, 92, 93, 94, 152, 153, 154, 155, 208, 209, 210, 211, 212, 213, 214, 215, 216, 217, 218, 219, 220, 221, 222, 223, 224, 225, 226, 227, 228, 229, 230, 231, 232, 233, 234] rfl (by decide +kernel)) (goodIn_sub (fun _ h => List.mem_cons_of_mem _ (List.mem_append_left _ (List.mem_append_left _ (List.mem_append_right _ h)))) (by decide +kernel))
set_option maxRecDepth 20000 in
theorem gL_isStepSo_X2_play : GoodIn wsL_isStepSo (wsV RL 28 RX2 yX2_play wsX2_play) := goodIn_app (goodIn_r _ [169, 170, 171, 4] rfl (by decide +kernel)) ggL_isStepSo_X2_play
set_option maxRecDepth 20000 in
theorem ggL_isStepSo_X2_note : GoodIn wsL_isStepSo wsX2_note := goodIn_ca (goodIn_r _ [182, 6, 7, 16, 8, 9, 4, 10, 183, 184, 185, 20, 186, 28, 187, 188, 43, 189, 190, 191, 192, 193, 123, 194, 195, 196, 197, 70, 71, 72, 73, 198, 199, 200, 201, 124, 208, 209, 210, 211, 212, 213, 214, 215, 216, 217, 218, 219, 220, 221, 222, 223, 224, 225, 226, 227, 228, 229, 230, 231, 232, 233, 234] rfl (by decide +kernel)) (goodIn_sub (fun _ h => List.mem_cons_of_mem _ (List.mem_append_left _ (List.mem_append_left _ (List.mem_append_right _ h)))) (by decide +kernel))
set_option maxRecDepth 20000 in
theorem gL_isStepSo_X2_note : GoodIn wsL_isStepSo (wsV RL 72 RX2 yX2_note wsX2_note) := goodIn_app (goodIn_r _ [179, 180, 181, 4] rfl (by decide +kernel)) ggL_isStepSo_X2_note
set_option maxRecDepth 20000 in
theorem ggL_isStepSo_X2_undo : GoodIn wsL_isStepSo wsX2_undo := goodIn_ca (goodIn_r _ [205, 206, 207, 15, 16, 177, 178, 115, 116, 117, 20, 118, 69, 119, 120, 121, 122, 40, 89, 90, 123, 124, 31, 49, 22, 23, 24, 25, 26, 27, 28, 29, 30, 208, 209, 210, 211, 212, 213, 214, 215, 216, 217, 218, 219, 220, 221, 222, 223, 224, 225, 226, 227, 228, 229, 230, 231, 232, 233, 234] rfl (by decide +kernel)) (goodIn_sub (fun _ h => List.mem_cons_of_mem _ (List.mem_append_right _ h)) (by decide +kernel))
set_option maxRecDepth 20000 in
theorem gL_isStepSo_X2_undo : GoodIn wsL_isStepSo (wsV RL 93 RX2 yX2_undo wsX2_undo) := goodIn_app (goodIn_r _ [202, 203, 204, 4] rfl (by decide +kernel)) ggL_isStepSo_X2_undo
theorem dL_isStepSo_0 : decode cL_isStepSo 0 = .ok (.aload_n 0, 1) := by decide +kernel
theorem dL_isStepSo_1 : decode cL_isStepSo 1 = .ok (.iconst 0, 1) := by decide +kernel
theorem dL_isStepSo_2 : decode cL_isStepSo 2 = .ok (.invokevirtual 63, 3) := by decide +kernel
theorem dL_isStepSo_5 : decode cL_isStepSo 5 = .ok (.iconst 1, 1) := by decide +kernel
theorem dL_isStepSo_6 : decode cL_isStepSo 6 = .ok (.iadd, 1) := by decide +kernel
theorem dL_isStepSo_7 : decode cL_isStepSo 7 = .ok (.bipush 32, 2) := by decide +kernel
theorem dL_isStepSo_9 : decode cL_isStepSo 9 = .ok (.irem, 1) := by decide +kernel
theorem dL_isStepSo_10 : decode cL_isStepSo 10 = .ok (.istore_n 1, 1) := by decide +kernel
theorem dL_isStepSo_11 : decode cL_isStepSo 11 = .ok (.iload_n 1, 1) := by decide +kernel
theorem dL_isStepSo_12 : decode cL_isStepSo 12 = .ok (.ifCond .ne 25, 3) := by decide +kernel
theorem dL_isStepSo_15 : decode cL_isStepSo 15 = .ok (.aload_n 0, 1) := by decide +kernel
theorem dL_isStepSo_16 : decode cL_isStepSo 16 = .ok (.bipush 14, 2) := by decide +kernel
theorem dL_isStepSo_18 : decode cL_isStepSo 18 = .ok (.invokevirtual 63, 3) := by decide +kernel
theorem dL_isStepSo_21 : decode cL_isStepSo 21 = .ok (.iconst 1, 1) := by decide +kernel
theorem dL_isStepSo_22 : decode cL_isStepSo 22 = .ok (.if_icmp .ne 15, 3) := by decide +kernel
theorem dL_isStepSo_25 : decode cL_isStepSo 25 = .ok (.aload_n 0, 1) := by decide +kernel
theorem dL_isStepSo_26 : decode cL_isStepSo 26 = .ok (.iconst 1, 1) := by decide +kernel
theorem dL_isStepSo_27 : decode cL_isStepSo 27 = .ok (.invokevirtual 63, 3) := by decide +kernel
theorem dL_isStepSo_30 : decode cL_isStepSo 30 = .ok (.iconst 1, 1) := by decide +kernel
theorem dL_isStepSo_31 : decode cL_isStepSo 31 = .ok (.iadd, 1) := by decide +kernel
theorem dL_isStepSo_32 : decode cL_isStepSo 32 = .ok (.iconst 3, 1) := by decide +kernel
theorem dL_isStepSo_33 : decode cL_isStepSo 33 = .ok (.irem, 1) := by decide +kernel
theorem dL_isStepSo_34 : decode cL_isStepSo 34 = .ok (.goto 8, 3) := by decide +kernel
theorem dL_isStepSo_37 : decode cL_isStepSo 37 = .ok (.aload_n 0, 1) := by decide +kernel
theorem dL_isStepSo_38 : decode cL_isStepSo 38 = .ok (.iconst 1, 1) := by decide +kernel
theorem dL_isStepSo_39 : decode cL_isStepSo 39 = .ok (.invokevirtual 63, 3) := by decide +kernel
theorem dL_isStepSo_42 : decode cL_isStepSo 42 = .ok (.istore_n 2, 1) := by decide +kernel
theorem dL_isStepSo_43 : decode cL_isStepSo 43 = .ok (.aload_n 0, 1) := by decide +kernel
theorem dL_isStepSo_44 : decode cL_isStepSo 44 = .ok (.iload_n 2, 1) := by decide +kernel
theorem dL_isStepSo_45 : decode cL_isStepSo 45 = .ok (.iload_n 1, 1) := by decide +kernel
theorem dL_isStepSo_46 : decode cL_isStepSo 46 = .ok (.invokevirtual 66, 3) := by decide +kernel
theorem dL_isStepSo_49 : decode cL_isStepSo 49 = .ok (.istore_n 3, 1) := by decide +kernel
theorem dL_isStepSo_50 : decode cL_isStepSo 50 = .ok (.iconst 1, 1) := by decide +kernel
theorem dL_isStepSo_51 : decode cL_isStepSo 51 = .ok (.istore 4, 2) := by decide +kernel
theorem dL_isStepSo_53 : decode cL_isStepSo 53 = .ok (.iconst 0, 1) := by decide +kernel
theorem dL_isStepSo_54 : decode cL_isStepSo 54 = .ok (.istore 5, 2) := by decide +kernel
theorem dL_isStepSo_56 : decode cL_isStepSo 56 = .ok (.iload 5, 2) := by decide +kernel
theorem dL_isStepSo_58 : decode cL_isStepSo 58 = .ok (.bipush 12, 2) := by decide +kernel
theorem dL_isStepSo_60 : decode cL_isStepSo 60 = .ok (.if_icmp .ge 39, 3) := by decide +kernel
theorem dL_isStepSo_63 : decode cL_isStepSo 63 = .ok (.iload 4, 2) := by decide +kernel
theorem dL_isStepSo_65 : decode cL_isStepSo 65 = .ok (.iload_n 3, 1) := by decide +kernel
theorem dL_isStepSo_66 : decode cL_isStepSo 66 = .ok (.iload 5, 2) := by decide +kernel
theorem dL_isStepSo_68 : decode cL_isStepSo 68 = .ok (.ishr, 1) := by decide +kernel
theorem dL_isStepSo_69 : decode cL_isStepSo 69 = .ok (.iconst 1, 1) := by decide +kernel
theorem dL_isStepSo_70 : decode cL_isStepSo 70 = .ok (.iand, 1) := by decide +kernel
theorem dL_isStepSo_71 : decode cL_isStepSo 71 = .ok (.iconst 1, 1) := by decide +kernel
theorem dL_isStepSo_72 : decode cL_isStepSo 72 = .ok (.if_icmp .ne 17, 3) := by decide +kernel
theorem dL_isStepSo_75 : decode cL_isStepSo 75 = .ok (.aload_n 0, 1) := by decide +kernel
theorem dL_isStepSo_76 : decode cL_isStepSo 76 = .ok (.iload 5, 2) := by decide +kernel
theorem dL_isStepSo_78 : decode cL_isStepSo 78 = .ok (.iconst 2, 1) := by decide +kernel
theorem dL_isStepSo_79 : decode cL_isStepSo 79 = .ok (.invokevirtual 69, 3) := by decide +kernel
theorem dL_isStepSo_82 : decode cL_isStepSo 82 = .ok (.ifCond .ne 7, 3) := by decide +kernel
theorem dL_isStepSo_85 : decode cL_isStepSo 85 = .ok (.iconst 1, 1) := by decide +kernel
theorem dL_isStepSo_86 : decode cL_isStepSo 86 = .ok (.goto 4, 3) := by decide +kernel
theorem dL_isStepSo_89 : decode cL_isStepSo 89 = .ok (.iconst 0, 1) := by decide +kernel
theorem dL_isStepSo_90 : decode cL_isStepSo 90 = .ok (.iadd, 1) := by decide +kernel
theorem dL_isStepSo_91 : decode cL_isStepSo 91 = .ok (.istore 4, 2) := by decide +kernel
theorem dL_isStepSo_93 : decode cL_isStepSo 93 = .ok (.iinc 5 1, 3) := by decide +kernel
theorem dL_isStepSo_96 : decode cL_isStepSo 96 = .ok (.goto (-40), 3) := by decide +kernel
theorem dL_isStepSo_99 : decode cL_isStepSo 99 = .ok (.aload_n 0, 1) := by decide +kernel
theorem dL_isStepSo_100 : decode cL_isStepSo 100 = .ok (.iconst 2, 1) := by decide +kernel
theorem dL_isStepSo_101 : decode cL_isStepSo 101 = .ok (.invokevirtual 63, 3) := by decide +kernel
theorem dL_isStepSo_104 : decode cL_isStepSo 104 = .ok (.istore 5, 2) := by decide +kernel
theorem dL_isStepSo_106 : decode cL_isStepSo 106 = .ok (.aload_n 0, 1) := by decide +kernel
theorem dL_isStepSo_107 : decode cL_isStepSo 107 = .ok (.iconst 4, 1) := by decide +kernel
theorem dL_isStepSo_108 : decode cL_isStepSo 108 = .ok (.invokevirtual 63, 3) := by decide +kernel
theorem dL_isStepSo_111 : decode cL_isStepSo 111 = .ok (.istore 6, 2) := by decide +kernel
theorem dL_isStepSo_113 : decode cL_isStepSo 113 = .ok (.aload_n 0, 1) := by decide +kernel
theorem dL_isStepSo_114 : decode cL_isStepSo 114 = .ok (.bipush 6, 2) := by decide +kernel
theorem dL_isStepSo_116 : decode cL_isStepSo 116 = .ok (.invokevirtual 63, 3) := by decide +kernel
theorem dL_isStepSo_119 : decode cL_isStepSo 119 = .ok (.istore 7, 2) := by decide +kernel
theorem dL_isStepSo_121 : decode cL_isStepSo 121 = .ok (.aload_n 0, 1) := by decide +kernel
theorem dL_isStepSo_122 : decode cL_isStepSo 122 = .ok (.bipush 7, 2) := by decide +kernel
theorem dL_isStepSo_124 : decode cL_isStepSo 124 = .ok (.invokevirtual 63, 3) := by decide +kernel
theorem dL_isStepSo_127 : decode cL_isStepSo 127 = .ok (.istore 8, 2) := by decide +kernel
theorem dL_isStepSo_129 : decode cL_isStepSo 129 = .ok (.aload_n 0, 1) := by decide +kernel
theorem dL_isStepSo_130 : decode cL_isStepSo 130 = .ok (.bipush 9, 2) := by decide +kernel
theorem dL_isStepSo_132 : decode cL_isStepSo 132 = .ok (.invokevirtual 63, 3) := by decide +kernel
theorem dL_isStepSo_135 : decode cL_isStepSo 135 = .ok (.istore 9, 2) := by decide +kernel
theorem dL_isStepSo_137 : decode cL_isStepSo 137 = .ok (.aload_n 0, 1) := by decide +kernel
theorem dL_isStepSo_138 : decode cL_isStepSo 138 = .ok (.iconst 1, 1) := by decide +kernel
theorem dL_isStepSo_139 : decode cL_isStepSo 139 = .ok (.iconst 3, 1) := by decide +kernel
theorem dL_isStepSo_140 : decode cL_isStepSo 140 = .ok (.invokevirtual 87, 3) := by decide +kernel
theorem dL_isStepSo_143 : decode cL_isStepSo 143 = .ok (.istore 10, 2) := by decide +kernel
theorem dL_isStepSo_145 : decode cL_isStepSo 145 = .ok (.iload 5, 2) := by decide +kernel
theorem dL_isStepSo_147 : decode cL_isStepSo 147 = .ok (.iload 4, 2) := by decide +kernel
theorem dL_isStepSo_149 : decode cL_isStepSo 149 = .ok (.if_icmp .lt 7, 3) := by decide +kernel
theorem dL_isStepSo_152 : decode cL_isStepSo 152 = .ok (.iconst 1, 1) := by decide +kernel
theorem dL_isStepSo_153 : decode cL_isStepSo 153 = .ok (.goto 4, 3) := by decide +kernel
theorem dL_isStepSo_156 : decode cL_isStepSo 156 = .ok (.iconst 0, 1) := by decide +kernel
theorem dL_isStepSo_157 : decode cL_isStepSo 157 = .ok (.istore 11, 2) := by decide +kernel
theorem dL_isStepSo_159 : decode cL_isStepSo 159 = .ok (.aload_n 0, 1) := by decide +kernel
theorem dL_isStepSo_160 : decode cL_isStepSo 160 = .ok (.iconst 1, 1) := by decide +kernel
theorem dL_isStepSo_161 : decode cL_isStepSo 161 = .ok (.iconst 0, 1) := by decide +kernel
theorem dL_isStepSo_162 : decode cL_isStepSo 162 = .ok (.invokevirtual 87, 3) := by decide +kernel
theorem dL_isStepSo_165 : decode cL_isStepSo 165 = .ok (.iload 11, 2) := by decide +kernel
theorem dL_isStepSo_167 : decode cL_isStepSo 167 = .ok (.ifCond .eq 7, 3) := by decide +kernel
theorem dL_isStepSo_170 : decode cL_isStepSo 170 = .ok (.iconst 1, 1) := by decide +kernel
theorem dL_isStepSo_171 : decode cL_isStepSo 171 = .ok (.goto 4, 3) := by decide +kernel
theorem dL_isStepSo_174 : decode cL_isStepSo 174 = .ok (.iconst 0, 1) := by decide +kernel
theorem dL_isStepSo_175 : decode cL_isStepSo 175 = .ok (.if_icmp .ne 64, 3) := by decide +kernel
theorem dL_isStepSo_178 : decode cL_isStepSo 178 = .ok (.iload 10, 2) := by decide +kernel
theorem dL_isStepSo_180 : decode cL_isStepSo 180 = .ok (.iload 11, 2) := by decide +kernel
theorem dL_isStepSo_182 : decode cL_isStepSo 182 = .ok (.ifCond .eq 23, 3) := by decide +kernel
theorem dL_isStepSo_185 : decode cL_isStepSo 185 = .ok (.bipush 12, 2) := by decide +kernel
theorem dL_isStepSo_187 : decode cL_isStepSo 187 = .ok (.iload 5, 2) := by decide +kernel
theorem dL_isStepSo_189 : decode cL_isStepSo 189 = .ok (.iload 4, 2) := by decide +kernel
theorem dL_isStepSo_191 : decode cL_isStepSo 191 = .ok (.isub, 1) := by decide +kernel
theorem dL_isStepSo_192 : decode cL_isStepSo 192 = .ok (.bipush 50, 2) := by decide +kernel
theorem dL_isStepSo_194 : decode cL_isStepSo 194 = .ok (.idiv, 1) := by decide +kernel
theorem dL_isStepSo_195 : decode cL_isStepSo 195 = .ok (.isub, 1) := by decide +kernel
theorem dL_isStepSo_196 : decode cL_isStepSo 196 = .ok (.aload_n 0, 1) := by decide +kernel
theorem dL_isStepSo_197 : decode cL_isStepSo 197 = .ok (.iconst 3, 1) := by decide +kernel
theorem dL_isStepSo_198 : decode cL_isStepSo 198 = .ok (.invokevirtual 63, 3) := by decide +kernel
theorem dL_isStepSo_201 : decode cL_isStepSo 201 = .ok (.iadd, 1) := by decide +kernel
theorem dL_isStepSo_202 : decode cL_isStepSo 202 = .ok (.goto 4, 3) := by decide +kernel
theorem dL_isStepSo_205 : decode cL_isStepSo 205 = .ok (.iconst 0, 1) := by decide +kernel
theorem dL_isStepSo_206 : decode cL_isStepSo 206 = .ok (.if_icmp .ne 33, 3) := by decide +kernel
theorem dL_isStepSo_209 : decode cL_isStepSo 209 = .ok (.aload_n 0, 1) := by decide +kernel
theorem dL_isStepSo_210 : decode cL_isStepSo 210 = .ok (.iconst 1, 1) := by decide +kernel
theorem dL_isStepSo_211 : decode cL_isStepSo 211 = .ok (.invokevirtual 90, 3) := by decide +kernel
theorem dL_isStepSo_214 : decode cL_isStepSo 214 = .ok (.bipush 32, 2) := by decide +kernel
theorem dL_isStepSo_216 : decode cL_isStepSo 216 = .ok (.if_icmp .lt 23, 3) := by decide +kernel
theorem dL_isStepSo_219 : decode cL_isStepSo 219 = .ok (.aload_n 0, 1) := by decide +kernel
theorem dL_isStepSo_220 : decode cL_isStepSo 220 = .ok (.iconst 2, 1) := by decide +kernel
theorem dL_isStepSo_221 : decode cL_isStepSo 221 = .ok (.invokevirtual 90, 3) := by decide +kernel
theorem dL_isStepSo_224 : decode cL_isStepSo 224 = .ok (.aload_n 0, 1) := by decide +kernel
theorem dL_isStepSo_225 : decode cL_isStepSo 225 = .ok (.iconst 1, 1) := by decide +kernel
theorem dL_isStepSo_226 : decode cL_isStepSo 226 = .ok (.invokevirtual 90, 3) := by decide +kernel
theorem dL_isStepSo_229 : decode cL_isStepSo 229 = .ok (.bipush 32, 2) := by decide +kernel
theorem dL_isStepSo_231 : decode cL_isStepSo 231 = .ok (.iadd, 1) := by decide +kernel
theorem dL_isStepSo_232 : decode cL_isStepSo 232 = .ok (.if_icmp .lt 7, 3) := by decide +kernel
theorem dL_isStepSo_235 : decode cL_isStepSo 235 = .ok (.iconst 1, 1) := by decide +kernel
theorem dL_isStepSo_236 : decode cL_isStepSo 236 = .ok (.goto 4, 3) := by decide +kernel
theorem dL_isStepSo_239 : decode cL_isStepSo 239 = .ok (.iconst 0, 1) := by decide +kernel
theorem dL_isStepSo_240 : decode cL_isStepSo 240 = .ok (.istore 12, 2) := by decide +kernel
theorem dL_isStepSo_242 : decode cL_isStepSo 242 = .ok (.aload_n 0, 1) := by decide +kernel
theorem dL_isStepSo_243 : decode cL_isStepSo 243 = .ok (.iconst 1, 1) := by decide +kernel
theorem dL_isStepSo_244 : decode cL_isStepSo 244 = .ok (.iconst 1, 1) := by decide +kernel
theorem dL_isStepSo_245 : decode cL_isStepSo 245 = .ok (.invokevirtual 87, 3) := by decide +kernel
theorem dL_isStepSo_248 : decode cL_isStepSo 248 = .ok (.istore 13, 2) := by decide +kernel
theorem dL_isStepSo_250 : decode cL_isStepSo 250 = .ok (.aload_n 0, 1) := by decide +kernel
theorem dL_isStepSo_251 : decode cL_isStepSo 251 = .ok (.iconst 1, 1) := by decide +kernel
theorem dL_isStepSo_252 : decode cL_isStepSo 252 = .ok (.iconst 2, 1) := by decide +kernel
theorem dL_isStepSo_253 : decode cL_isStepSo 253 = .ok (.invokevirtual 87, 3) := by decide +kernel
theorem dL_isStepSo_256 : decode cL_isStepSo 256 = .ok (.istore 14, 2) := by decide +kernel
theorem dL_isStepSo_258 : decode cL_isStepSo 258 = .ok (.aload_n 0, 1) := by decide +kernel
theorem dL_isStepSo_259 : decode cL_isStepSo 259 = .ok (.iconst 1, 1) := by decide +kernel
theorem dL_isStepSo_260 : decode cL_isStepSo 260 = .ok (.iconst 4, 1) := by decide +kernel
theorem dL_isStepSo_261 : decode cL_isStepSo 261 = .ok (.invokevirtual 87, 3) := by decide +kernel
theorem dL_isStepSo_264 : decode cL_isStepSo 264 = .ok (.istore 15, 2) := by decide +kernel
theorem dL_isStepSo_266 : decode cL_isStepSo 266 = .ok (.iload 12, 2) := by decide +kernel
theorem dL_isStepSo_268 : decode cL_isStepSo 268 = .ok (.ifCond .eq 164, 3) := by decide +kernel
theorem dL_isStepSo_271 : decode cL_isStepSo 271 = .ok (.iload 13, 2) := by decide +kernel
theorem dL_isStepSo_273 : decode cL_isStepSo 273 = .ok (.iload 15, 2) := by decide +kernel
theorem dL_isStepSo_275 : decode cL_isStepSo 275 = .ok (.iadd, 1) := by decide +kernel
theorem dL_isStepSo_276 : decode cL_isStepSo 276 = .ok (.iload 11, 2) := by decide +kernel
theorem dL_isStepSo_278 : decode cL_isStepSo 278 = .ok (.ifCond .eq 10, 3) := by decide +kernel
theorem dL_isStepSo_281 : decode cL_isStepSo 281 = .ok (.iload 4, 2) := by decide +kernel
theorem dL_isStepSo_283 : decode cL_isStepSo 283 = .ok (.iconst 1, 1) := by decide +kernel
theorem dL_isStepSo_284 : decode cL_isStepSo 284 = .ok (.isub, 1) := by decide +kernel
theorem dL_isStepSo_285 : decode cL_isStepSo 285 = .ok (.goto 4, 3) := by decide +kernel
theorem dL_isStepSo_288 : decode cL_isStepSo 288 = .ok (.iconst 0, 1) := by decide +kernel
theorem dL_isStepSo_289 : decode cL_isStepSo 289 = .ok (.if_icmp .ne 143, 3) := by decide +kernel
theorem dL_isStepSo_292 : decode cL_isStepSo 292 = .ok (.iload 15, 2) := by decide +kernel
theorem dL_isStepSo_294 : decode cL_isStepSo 294 = .ok (.iload 14, 2) := by decide +kernel
theorem dL_isStepSo_296 : decode cL_isStepSo 296 = .ok (.if_icmp .gt 136, 3) := by decide +kernel
theorem dL_isStepSo_299 : decode cL_isStepSo 299 = .ok (.iload 14, 2) := by decide +kernel
theorem dL_isStepSo_301 : decode cL_isStepSo 301 = .ok (.iload 13, 2) := by decide +kernel
theorem dL_isStepSo_303 : decode cL_isStepSo 303 = .ok (.iload 15, 2) := by decide +kernel
theorem dL_isStepSo_305 : decode cL_isStepSo 305 = .ok (.iadd, 1) := by decide +kernel
theorem dL_isStepSo_306 : decode cL_isStepSo 306 = .ok (.if_icmp .gt 126, 3) := by decide +kernel
theorem dL_isStepSo_309 : decode cL_isStepSo 309 = .ok (.aload_n 0, 1) := by decide +kernel
theorem dL_isStepSo_310 : decode cL_isStepSo 310 = .ok (.iconst 1, 1) := by decide +kernel
theorem dL_isStepSo_311 : decode cL_isStepSo 311 = .ok (.invokevirtual 28, 3) := by decide +kernel
theorem dL_isStepSo_314 : decode cL_isStepSo 314 = .ok (.iload 11, 2) := by decide +kernel
theorem dL_isStepSo_316 : decode cL_isStepSo 316 = .ok (.ifCond .eq 7, 3) := by decide +kernel
theorem dL_isStepSo_319 : decode cL_isStepSo 319 = .ok (.iconst 1, 1) := by decide +kernel
theorem dL_isStepSo_320 : decode cL_isStepSo 320 = .ok (.goto 4, 3) := by decide +kernel
theorem dL_isStepSo_323 : decode cL_isStepSo 323 = .ok (.iconst 0, 1) := by decide +kernel
theorem dL_isStepSo_324 : decode cL_isStepSo 324 = .ok (.if_icmp .ne 108, 3) := by decide +kernel
theorem dL_isStepSo_327 : decode cL_isStepSo 327 = .ok (.aload_n 0, 1) := by decide +kernel
theorem dL_isStepSo_328 : decode cL_isStepSo 328 = .ok (.iconst 2, 1) := by decide +kernel
theorem dL_isStepSo_329 : decode cL_isStepSo 329 = .ok (.invokevirtual 63, 3) := by decide +kernel
theorem dL_isStepSo_332 : decode cL_isStepSo 332 = .ok (.iload 11, 2) := by decide +kernel
theorem dL_isStepSo_334 : decode cL_isStepSo 334 = .ok (.ifCond .eq 11, 3) := by decide +kernel
theorem dL_isStepSo_337 : decode cL_isStepSo 337 = .ok (.iload 5, 2) := by decide +kernel
theorem dL_isStepSo_339 : decode cL_isStepSo 339 = .ok (.iload 4, 2) := by decide +kernel
theorem dL_isStepSo_341 : decode cL_isStepSo 341 = .ok (.isub, 1) := by decide +kernel
theorem dL_isStepSo_342 : decode cL_isStepSo 342 = .ok (.goto 5, 3) := by decide +kernel
theorem dL_isStepSo_345 : decode cL_isStepSo 345 = .ok (.iload 5, 2) := by decide +kernel
theorem dL_isStepSo_347 : decode cL_isStepSo 347 = .ok (.if_icmp .ne 85, 3) := by decide +kernel
theorem dL_isStepSo_350 : decode cL_isStepSo 350 = .ok (.aload_n 0, 1) := by decide +kernel
theorem dL_isStepSo_351 : decode cL_isStepSo 351 = .ok (.iconst 4, 1) := by decide +kernel
theorem dL_isStepSo_352 : decode cL_isStepSo 352 = .ok (.invokevirtual 63, 3) := by decide +kernel
theorem dL_isStepSo_355 : decode cL_isStepSo 355 = .ok (.iload 6, 2) := by decide +kernel
theorem dL_isStepSo_357 : decode cL_isStepSo 357 = .ok (.iload 10, 2) := by decide +kernel
theorem dL_isStepSo_359 : decode cL_isStepSo 359 = .ok (.iadd, 1) := by decide +kernel
theorem dL_isStepSo_360 : decode cL_isStepSo 360 = .ok (.if_icmp .ne 72, 3) := by decide +kernel
theorem dL_isStepSo_363 : decode cL_isStepSo 363 = .ok (.aload_n 0, 1) := by decide +kernel
theorem dL_isStepSo_364 : decode cL_isStepSo 364 = .ok (.bipush 6, 2) := by decide +kernel
theorem dL_isStepSo_366 : decode cL_isStepSo 366 = .ok (.invokevirtual 63, 3) := by decide +kernel
theorem dL_isStepSo_369 : decode cL_isStepSo 369 = .ok (.iload 7, 2) := by decide +kernel
theorem dL_isStepSo_371 : decode cL_isStepSo 371 = .ok (.iload 13, 2) := by decide +kernel
theorem dL_isStepSo_373 : decode cL_isStepSo 373 = .ok (.iadd, 1) := by decide +kernel
theorem dL_isStepSo_374 : decode cL_isStepSo 374 = .ok (.if_icmp .ne 58, 3) := by decide +kernel
theorem dL_isStepSo_377 : decode cL_isStepSo 377 = .ok (.aload_n 0, 1) := by decide +kernel
theorem dL_isStepSo_378 : decode cL_isStepSo 378 = .ok (.bipush 7, 2) := by decide +kernel
theorem dL_isStepSo_380 : decode cL_isStepSo 380 = .ok (.invokevirtual 63, 3) := by decide +kernel
theorem dL_isStepSo_383 : decode cL_isStepSo 383 = .ok (.iload 8, 2) := by decide +kernel
theorem dL_isStepSo_385 : decode cL_isStepSo 385 = .ok (.iload 14, 2) := by decide +kernel
theorem dL_isStepSo_387 : decode cL_isStepSo 387 = .ok (.iadd, 1) := by decide +kernel
theorem dL_isStepSo_388 : decode cL_isStepSo 388 = .ok (.if_icmp .ne 44, 3) := by decide +kernel
theorem dL_isStepSo_391 : decode cL_isStepSo 391 = .ok (.aload_n 0, 1) := by decide +kernel
theorem dL_isStepSo_392 : decode cL_isStepSo 392 = .ok (.bipush 9, 2) := by decide +kernel
theorem dL_isStepSo_394 : decode cL_isStepSo 394 = .ok (.invokevirtual 63, 3) := by decide +kernel
theorem dL_isStepSo_397 : decode cL_isStepSo 397 = .ok (.iload 9, 2) := by decide +kernel
theorem dL_isStepSo_399 : decode cL_isStepSo 399 = .ok (.iload 15, 2) := by decide +kernel
theorem dL_isStepSo_401 : decode cL_isStepSo 401 = .ok (.iadd, 1) := by decide +kernel
theorem dL_isStepSo_402 : decode cL_isStepSo 402 = .ok (.if_icmp .ne 30, 3) := by decide +kernel
theorem dL_isStepSo_405 : decode cL_isStepSo 405 = .ok (.iload 11, 2) := by decide +kernel
theorem dL_isStepSo_407 : decode cL_isStepSo 407 = .ok (.ifCond .eq 21, 3) := by decide +kernel
theorem dL_isStepSo_410 : decode cL_isStepSo 410 = .ok (.aload_n 0, 1) := by decide +kernel
theorem dL_isStepSo_411 : decode cL_isStepSo 411 = .ok (.iconst 0, 1) := by decide +kernel
theorem dL_isStepSo_412 : decode cL_isStepSo 412 = .ok (.invokevirtual 63, 3) := by decide +kernel
theorem dL_isStepSo_415 : decode cL_isStepSo 415 = .ok (.iload_n 1, 1) := by decide +kernel
theorem dL_isStepSo_416 : decode cL_isStepSo 416 = .ok (.if_icmp .ne 16, 3) := by decide +kernel
theorem dL_isStepSo_419 : decode cL_isStepSo 419 = .ok (.aload_n 0, 1) := by decide +kernel
theorem dL_isStepSo_420 : decode cL_isStepSo 420 = .ok (.iconst 1, 1) := by decide +kernel
theorem dL_isStepSo_421 : decode cL_isStepSo 421 = .ok (.invokevirtual 63, 3) := by decide +kernel
theorem dL_isStepSo_424 : decode cL_isStepSo 424 = .ok (.iload_n 2, 1) := by decide +kernel
theorem dL_isStepSo_425 : decode cL_isStepSo 425 = .ok (.if_icmp .ne 7, 3) := by decide +kernel
theorem dL_isStepSo_428 : decode cL_isStepSo 428 = .ok (.iconst 1, 1) := by decide +kernel
theorem dL_isStepSo_429 : decode cL_isStepSo 429 = .ok (.goto 4, 3) := by decide +kernel
theorem dL_isStepSo_432 : decode cL_isStepSo 432 = .ok (.iconst 0, 1) := by decide +kernel
theorem dL_isStepSo_433 : decode cL_isStepSo 433 = .ok (.istore 12, 2) := by decide +kernel
theorem dL_isStepSo_435 : decode cL_isStepSo 435 = .ok (.iconst 0, 1) := by decide +kernel
theorem dL_isStepSo_436 : decode cL_isStepSo 436 = .ok (.istore 16, 2) := by decide +kernel
theorem dL_isStepSo_438 : decode cL_isStepSo 438 = .ok (.iload 16, 2) := by decide +kernel
theorem dL_isStepSo_440 : decode cL_isStepSo 440 = .ok (.iload 13, 2) := by decide +kernel
theorem dL_isStepSo_442 : decode cL_isStepSo 442 = .ok (.if_icmp .ge 91, 3) := by decide +kernel
theorem dL_isStepSo_445 : decode cL_isStepSo 445 = .ok (.iload 12, 2) := by decide +kernel
theorem dL_isStepSo_447 : decode cL_isStepSo 447 = .ok (.ifCond .eq 77, 3) := by decide +kernel
theorem dL_isStepSo_450 : decode cL_isStepSo 450 = .ok (.aload_n 0, 1) := by decide +kernel
theorem dL_isStepSo_451 : decode cL_isStepSo 451 = .ok (.iload 16, 2) := by decide +kernel
theorem dL_isStepSo_453 : decode cL_isStepSo 453 = .ok (.iconst 1, 1) := by decide +kernel
theorem dL_isStepSo_454 : decode cL_isStepSo 454 = .ok (.invokevirtual 72, 3) := by decide +kernel
theorem dL_isStepSo_457 : decode cL_isStepSo 457 = .ok (.iload 6, 2) := by decide +kernel
theorem dL_isStepSo_459 : decode cL_isStepSo 459 = .ok (.iload 10, 2) := by decide +kernel
theorem dL_isStepSo_461 : decode cL_isStepSo 461 = .ok (.iadd, 1) := by decide +kernel
theorem dL_isStepSo_462 : decode cL_isStepSo 462 = .ok (.if_icmp .ne 62, 3) := by decide +kernel
theorem dL_isStepSo_465 : decode cL_isStepSo 465 = .ok (.iload_n 3, 1) := by decide +kernel
theorem dL_isStepSo_466 : decode cL_isStepSo 466 = .ok (.aload_n 0, 1) := by decide +kernel
theorem dL_isStepSo_467 : decode cL_isStepSo 467 = .ok (.iload 16, 2) := by decide +kernel
theorem dL_isStepSo_469 : decode cL_isStepSo 469 = .ok (.iconst 0, 1) := by decide +kernel
theorem dL_isStepSo_470 : decode cL_isStepSo 470 = .ok (.invokevirtual 72, 3) := by decide +kernel
theorem dL_isStepSo_473 : decode cL_isStepSo 473 = .ok (.ishr, 1) := by decide +kernel
theorem dL_isStepSo_474 : decode cL_isStepSo 474 = .ok (.iconst 1, 1) := by decide +kernel
theorem dL_isStepSo_475 : decode cL_isStepSo 475 = .ok (.iand, 1) := by decide +kernel
theorem dL_isStepSo_476 : decode cL_isStepSo 476 = .ok (.iconst 1, 1) := by decide +kernel
theorem dL_isStepSo_477 : decode cL_isStepSo 477 = .ok (.if_icmp .ne 47, 3) := by decide +kernel
theorem dL_isStepSo_480 : decode cL_isStepSo 480 = .ok (.aload_n 0, 1) := by decide +kernel
theorem dL_isStepSo_481 : decode cL_isStepSo 481 = .ok (.aload_n 0, 1) := by decide +kernel
theorem dL_isStepSo_482 : decode cL_isStepSo 482 = .ok (.iload 16, 2) := by decide +kernel
theorem dL_isStepSo_484 : decode cL_isStepSo 484 = .ok (.iconst 0, 1) := by decide +kernel
theorem dL_isStepSo_485 : decode cL_isStepSo 485 = .ok (.invokevirtual 72, 3) := by decide +kernel
theorem dL_isStepSo_488 : decode cL_isStepSo 488 = .ok (.iconst 0, 1) := by decide +kernel
theorem dL_isStepSo_489 : decode cL_isStepSo 489 = .ok (.invokevirtual 69, 3) := by decide +kernel
theorem dL_isStepSo_492 : decode cL_isStepSo 492 = .ok (.iconst 3, 1) := by decide +kernel
theorem dL_isStepSo_493 : decode cL_isStepSo 493 = .ok (.if_icmp .le 31, 3) := by decide +kernel
theorem dL_isStepSo_496 : decode cL_isStepSo 496 = .ok (.iload 16, 2) := by decide +kernel
theorem dL_isStepSo_498 : decode cL_isStepSo 498 = .ok (.ifCond .eq 22, 3) := by decide +kernel
theorem dL_isStepSo_501 : decode cL_isStepSo 501 = .ok (.aload_n 0, 1) := by decide +kernel
theorem dL_isStepSo_502 : decode cL_isStepSo 502 = .ok (.iload 16, 2) := by decide +kernel
theorem dL_isStepSo_504 : decode cL_isStepSo 504 = .ok (.iconst 0, 1) := by decide +kernel
theorem dL_isStepSo_505 : decode cL_isStepSo 505 = .ok (.invokevirtual 72, 3) := by decide +kernel
theorem dL_isStepSo_508 : decode cL_isStepSo 508 = .ok (.aload_n 0, 1) := by decide +kernel
theorem dL_isStepSo_509 : decode cL_isStepSo 509 = .ok (.iload 16, 2) := by decide +kernel
theorem dL_isStepSo_511 : decode cL_isStepSo 511 = .ok (.iconst 1, 1) := by decide +kernel
theorem dL_isStepSo_512 : decode cL_isStepSo 512 = .ok (.isub, 1) := by decide +kernel
theorem dL_isStepSo_513 : decode cL_isStepSo 513 = .ok (.iconst 0, 1) := by decide +kernel
theorem dL_isStepSo_514 : decode cL_isStepSo 514 = .ok (.invokevirtual 72, 3) := by decide +kernel
theorem dL_isStepSo_517 : decode cL_isStepSo 517 = .ok (.if_icmp .ge 7, 3) := by decide +kernel
theorem dL_isStepSo_520 : decode cL_isStepSo 520 = .ok (.iconst 1, 1) := by decide +kernel
theorem dL_isStepSo_521 : decode cL_isStepSo 521 = .ok (.goto 4, 3) := by decide +kernel
theorem dL_isStepSo_524 : decode cL_isStepSo 524 = .ok (.iconst 0, 1) := by decide +kernel
theorem dL_isStepSo_525 : decode cL_isStepSo 525 = .ok (.istore 12, 2) := by decide +kernel
theorem dL_isStepSo_527 : decode cL_isStepSo 527 = .ok (.iinc 16 1, 3) := by decide +kernel
theorem dL_isStepSo_530 : decode cL_isStepSo 530 = .ok (.goto (-92), 3) := by decide +kernel
theorem dL_isStepSo_533 : decode cL_isStepSo 533 = .ok (.iload 12, 2) := by decide +kernel
theorem dL_isStepSo_535 : decode cL_isStepSo 535 = .ok (.ifCond .eq 35, 3) := by decide +kernel
theorem dL_isStepSo_538 : decode cL_isStepSo 538 = .ok (.aload_n 0, 1) := by decide +kernel
theorem dL_isStepSo_539 : decode cL_isStepSo 539 = .ok (.invokevirtual 93, 3) := by decide +kernel
theorem dL_isStepSo_542 : decode cL_isStepSo 542 = .ok (.ifCond .lt 28, 3) := by decide +kernel
theorem dL_isStepSo_545 : decode cL_isStepSo 545 = .ok (.aload_n 0, 1) := by decide +kernel
theorem dL_isStepSo_546 : decode cL_isStepSo 546 = .ok (.iconst 2, 1) := by decide +kernel
theorem dL_isStepSo_547 : decode cL_isStepSo 547 = .ok (.invokevirtual 63, 3) := by decide +kernel
theorem dL_isStepSo_550 : decode cL_isStepSo 550 = .ok (.iload 5, 2) := by decide +kernel
theorem dL_isStepSo_552 : decode cL_isStepSo 552 = .ok (.if_icmp .ne 18, 3) := by decide +kernel
theorem dL_isStepSo_555 : decode cL_isStepSo 555 = .ok (.aload_n 0, 1) := by decide +kernel
theorem dL_isStepSo_556 : decode cL_isStepSo 556 = .ok (.bipush 6, 2) := by decide +kernel
theorem dL_isStepSo_558 : decode cL_isStepSo 558 = .ok (.invokevirtual 63, 3) := by decide +kernel
theorem dL_isStepSo_561 : decode cL_isStepSo 561 = .ok (.iload 7, 2) := by decide +kernel
theorem dL_isStepSo_563 : decode cL_isStepSo 563 = .ok (.if_icmp .ne 7, 3) := by decide +kernel
theorem dL_isStepSo_566 : decode cL_isStepSo 566 = .ok (.iconst 1, 1) := by decide +kernel
theorem dL_isStepSo_567 : decode cL_isStepSo 567 = .ok (.goto 4, 3) := by decide +kernel
theorem dL_isStepSo_570 : decode cL_isStepSo 570 = .ok (.iconst 0, 1) := by decide +kernel
theorem dL_isStepSo_571 : decode cL_isStepSo 571 = .ok (.ireturn, 1) := by decide +kernel
