theorem dL_law_0 : decode cL_law 0 = .ok (.new 9, 3) := by decide +kernel
theorem dL_law_3 : decode cL_law 3 = .ok (.dup, 1) := by decide +kernel
theorem dL_law_4 : decode cL_law 4 = .ok (.invokespecial 97, 3) := by decide +kernel
theorem dL_law_7 : decode cL_law 7 = .ok (.astore_n 1, 1) := by decide +kernel
theorem dL_law_8 : decode cL_law 8 = .ok (.new 9, 3) := by decide +kernel
theorem dL_law_11 : decode cL_law 11 = .ok (.dup, 1) := by decide +kernel
theorem dL_law_12 : decode cL_law 12 = .ok (.invokespecial 97, 3) := by decide +kernel
theorem dL_law_15 : decode cL_law 15 = .ok (.astore_n 2, 1) := by decide +kernel
theorem dL_law_16 : decode cL_law 16 = .ok (.iconst 1, 1) := by decide +kernel
theorem dL_law_17 : decode cL_law 17 = .ok (.newarray .int, 2) := by decide +kernel
theorem dL_law_19 : decode cL_law 19 = .ok (.astore_n 3, 1) := by decide +kernel
theorem dL_law_20 : decode cL_law 20 = .ok (.iconst 0, 1) := by decide +kernel
theorem dL_law_21 : decode cL_law 21 = .ok (.istore 4, 2) := by decide +kernel
theorem dL_law_23 : decode cL_law 23 = .ok (.iload 4, 2) := by decide +kernel
theorem dL_law_25 : decode cL_law 25 = .ok (.bipush 56, 2) := by decide +kernel
theorem dL_law_27 : decode cL_law 27 = .ok (.if_icmp .ge 255, 3) := by decide +kernel
theorem dL_law_30 : decode cL_law 30 = .ok (.iload 4, 2) := by decide +kernel
theorem dL_law_32 : decode cL_law 32 = .ok (.iconst 5, 1) := by decide +kernel
theorem dL_law_33 : decode cL_law 33 = .ok (.if_icmp .ne 18, 3) := by decide +kernel
theorem dL_law_36 : decode cL_law 36 = .ok (.aload_n 0, 1) := by decide +kernel
theorem dL_law_37 : decode cL_law 37 = .ok (.iload 4, 2) := by decide +kernel
theorem dL_law_39 : decode cL_law 39 = .ok (.invokestatic 98, 3) := by decide +kernel
theorem dL_law_42 : decode cL_law 42 = .ok (.bipush (-32), 2) := by decide +kernel
theorem dL_law_44 : decode cL_law 44 = .ok (.iand, 1) := by decide +kernel
theorem dL_law_45 : decode cL_law 45 = .ok (.bipush 17, 2) := by decide +kernel
theorem dL_law_47 : decode cL_law 47 = .ok (.ior, 1) := by decide +kernel
theorem dL_law_48 : decode cL_law 48 = .ok (.goto 9, 3) := by decide +kernel
theorem dL_law_51 : decode cL_law 51 = .ok (.aload_n 0, 1) := by decide +kernel
theorem dL_law_52 : decode cL_law 52 = .ok (.iload 4, 2) := by decide +kernel
theorem dL_law_54 : decode cL_law 54 = .ok (.invokestatic 98, 3) := by decide +kernel
theorem dL_law_57 : decode cL_law 57 = .ok (.istore 5, 2) := by decide +kernel
theorem dL_law_59 : decode cL_law 59 = .ok (.aload_n 1, 1) := by decide +kernel
theorem dL_law_60 : decode cL_law 60 = .ok (.bipush 17, 2) := by decide +kernel
theorem dL_law_62 : decode cL_law 62 = .ok (.invokevirtual 63, 3) := by decide +kernel
theorem dL_law_65 : decode cL_law 65 = .ok (.istore 6, 2) := by decide +kernel
theorem dL_law_67 : decode cL_law 67 = .ok (.aload_n 1, 1) := by decide +kernel
theorem dL_law_68 : decode cL_law 68 = .ok (.iload 5, 2) := by decide +kernel
theorem dL_law_70 : decode cL_law 70 = .ok (.aload_n 3, 1) := by decide +kernel
theorem dL_law_71 : decode cL_law 71 = .ok (.invokestatic 102, 3) := by decide +kernel
theorem dL_law_74 : decode cL_law 74 = .ok (.istore 7, 2) := by decide +kernel
theorem dL_law_76 : decode cL_law 76 = .ok (.aload_n 3, 1) := by decide +kernel
theorem dL_law_77 : decode cL_law 77 = .ok (.iconst 0, 1) := by decide +kernel
theorem dL_law_78 : decode cL_law 78 = .ok (.iaload, 1) := by decide +kernel
theorem dL_law_79 : decode cL_law 79 = .ok (.istore 8, 2) := by decide +kernel
theorem dL_law_81 : decode cL_law 81 = .ok (.iload 7, 2) := by decide +kernel
theorem dL_law_83 : decode cL_law 83 = .ok (.ifCond .eq 24, 3) := by decide +kernel
theorem dL_law_86 : decode cL_law 86 = .ok (.aload_n 1, 1) := by decide +kernel
theorem dL_law_87 : decode cL_law 87 = .ok (.aload_n 2, 1) := by decide +kernel
theorem dL_law_88 : decode cL_law 88 = .ok (.invokestatic 106, 3) := by decide +kernel
theorem dL_law_91 : decode cL_law 91 = .ok (.ifCond .eq 14, 3) := by decide +kernel
theorem dL_law_94 : decode cL_law 94 = .ok (.aload_n 1, 1) := by decide +kernel
theorem dL_law_95 : decode cL_law 95 = .ok (.bipush 17, 2) := by decide +kernel
theorem dL_law_97 : decode cL_law 97 = .ok (.invokevirtual 63, 3) := by decide +kernel
theorem dL_law_100 : decode cL_law 100 = .ok (.iload 6, 2) := by decide +kernel
theorem dL_law_102 : decode cL_law 102 = .ok (.if_icmp .eq 5, 3) := by decide +kernel
theorem dL_law_105 : decode cL_law 105 = .ok (.iconst 0, 1) := by decide +kernel
theorem dL_law_106 : decode cL_law 106 = .ok (.ireturn, 1) := by decide +kernel
theorem dL_law_107 : decode cL_law 107 = .ok (.iload 7, 2) := by decide +kernel
theorem dL_law_109 : decode cL_law 109 = .ok (.ifCond .ne 65, 3) := by decide +kernel
theorem dL_law_112 : decode cL_law 112 = .ok (.iload 5, 2) := by decide +kernel
theorem dL_law_114 : decode cL_law 114 = .ok (.bipush 9, 2) := by decide +kernel
theorem dL_law_116 : decode cL_law 116 = .ok (.ishr, 1) := by decide +kernel
theorem dL_law_117 : decode cL_law 117 = .ok (.iconst 1, 1) := by decide +kernel
theorem dL_law_118 : decode cL_law 118 = .ok (.iand, 1) := by decide +kernel
theorem dL_law_119 : decode cL_law 119 = .ok (.ifCond .ne 55, 3) := by decide +kernel
theorem dL_law_122 : decode cL_law 122 = .ok (.aload_n 1, 1) := by decide +kernel
theorem dL_law_123 : decode cL_law 123 = .ok (.invokevirtual 93, 3) := by decide +kernel
theorem dL_law_126 : decode cL_law 126 = .ok (.istore 9, 2) := by decide +kernel
theorem dL_law_128 : decode cL_law 128 = .ok (.iload 9, 2) := by decide +kernel
theorem dL_law_130 : decode cL_law 130 = .ok (.iload 6, 2) := by decide +kernel
theorem dL_law_132 : decode cL_law 132 = .ok (.bipush 6, 2) := by decide +kernel
theorem dL_law_134 : decode cL_law 134 = .ok (.if_icmp .ne 7, 3) := by decide +kernel
theorem dL_law_137 : decode cL_law 137 = .ok (.iconst 5, 1) := by decide +kernel
theorem dL_law_138 : decode cL_law 138 = .ok (.goto 5, 3) := by decide +kernel
theorem dL_law_141 : decode cL_law 141 = .ok (.iload 6, 2) := by decide +kernel
theorem dL_law_143 : decode cL_law 143 = .ok (.if_icmp .ne 29, 3) := by decide +kernel
theorem dL_law_146 : decode cL_law 146 = .ok (.aload_n 1, 1) := by decide +kernel
theorem dL_law_147 : decode cL_law 147 = .ok (.aload_n 2, 1) := by decide +kernel
theorem dL_law_148 : decode cL_law 148 = .ok (.invokestatic 106, 3) := by decide +kernel
theorem dL_law_151 : decode cL_law 151 = .ok (.ifCond .eq 21, 3) := by decide +kernel
theorem dL_law_154 : decode cL_law 154 = .ok (.aload_n 1, 1) := by decide +kernel
theorem dL_law_155 : decode cL_law 155 = .ok (.iload 5, 2) := by decide +kernel
theorem dL_law_157 : decode cL_law 157 = .ok (.aload_n 3, 1) := by decide +kernel
theorem dL_law_158 : decode cL_law 158 = .ok (.invokestatic 102, 3) := by decide +kernel
theorem dL_law_161 : decode cL_law 161 = .ok (.ifCond .ne 11, 3) := by decide +kernel
theorem dL_law_164 : decode cL_law 164 = .ok (.aload_n 3, 1) := by decide +kernel
theorem dL_law_165 : decode cL_law 165 = .ok (.iconst 0, 1) := by decide +kernel
theorem dL_law_166 : decode cL_law 166 = .ok (.iaload, 1) := by decide +kernel
theorem dL_law_167 : decode cL_law 167 = .ok (.iload 8, 2) := by decide +kernel
theorem dL_law_169 : decode cL_law 169 = .ok (.if_icmp .eq 5, 3) := by decide +kernel
theorem dL_law_172 : decode cL_law 172 = .ok (.iconst 0, 1) := by decide +kernel
theorem dL_law_173 : decode cL_law 173 = .ok (.ireturn, 1) := by decide +kernel
theorem dL_law_174 : decode cL_law 174 = .ok (.aload_n 2, 1) := by decide +kernel
theorem dL_law_175 : decode cL_law 175 = .ok (.iload 5, 2) := by decide +kernel
theorem dL_law_177 : decode cL_law 177 = .ok (.aload_n 3, 1) := by decide +kernel
theorem dL_law_178 : decode cL_law 178 = .ok (.invokestatic 102, 3) := by decide +kernel
theorem dL_law_181 : decode cL_law 181 = .ok (.iload 7, 2) := by decide +kernel
theorem dL_law_183 : decode cL_law 183 = .ok (.if_icmp .ne 24, 3) := by decide +kernel
theorem dL_law_186 : decode cL_law 186 = .ok (.iload 7, 2) := by decide +kernel
theorem dL_law_188 : decode cL_law 188 = .ok (.ifCond .ne 11, 3) := by decide +kernel
theorem dL_law_191 : decode cL_law 191 = .ok (.aload_n 3, 1) := by decide +kernel
theorem dL_law_192 : decode cL_law 192 = .ok (.iconst 0, 1) := by decide +kernel
theorem dL_law_193 : decode cL_law 193 = .ok (.iaload, 1) := by decide +kernel
theorem dL_law_194 : decode cL_law 194 = .ok (.iload 8, 2) := by decide +kernel
theorem dL_law_196 : decode cL_law 196 = .ok (.if_icmp .ne 11, 3) := by decide +kernel
theorem dL_law_199 : decode cL_law 199 = .ok (.aload_n 1, 1) := by decide +kernel
theorem dL_law_200 : decode cL_law 200 = .ok (.aload_n 2, 1) := by decide +kernel
theorem dL_law_201 : decode cL_law 201 = .ok (.invokestatic 106, 3) := by decide +kernel
theorem dL_law_204 : decode cL_law 204 = .ok (.ifCond .ne 5, 3) := by decide +kernel
theorem dL_law_207 : decode cL_law 207 = .ok (.iconst 0, 1) := by decide +kernel
theorem dL_law_208 : decode cL_law 208 = .ok (.ireturn, 1) := by decide +kernel
theorem dL_law_209 : decode cL_law 209 = .ok (.iload 4, 2) := by decide +kernel
theorem dL_law_211 : decode cL_law 211 = .ok (.iconst 3, 1) := by decide +kernel
theorem dL_law_212 : decode cL_law 212 = .ok (.irem, 1) := by decide +kernel
theorem dL_law_213 : decode cL_law 213 = .ok (.iconst 2, 1) := by decide +kernel
theorem dL_law_214 : decode cL_law 214 = .ok (.if_icmp .ne 62, 3) := by decide +kernel
theorem dL_law_217 : decode cL_law 217 = .ok (.aload_n 1, 1) := by decide +kernel
theorem dL_law_218 : decode cL_law 218 = .ok (.iload 5, 2) := by decide +kernel
theorem dL_law_220 : decode cL_law 220 = .ok (.iconst 5, 1) := by decide +kernel
theorem dL_law_221 : decode cL_law 221 = .ok (.ishr, 1) := by decide +kernel
theorem dL_law_222 : decode cL_law 222 = .ok (.iconst 3, 1) := by decide +kernel
theorem dL_law_223 : decode cL_law 223 = .ok (.invokestatic 47, 3) := by decide +kernel
theorem dL_law_226 : decode cL_law 226 = .ok (.iload 5, 2) := by decide +kernel
theorem dL_law_228 : decode cL_law 228 = .ok (.bipush 7, 2) := by decide +kernel
theorem dL_law_230 : decode cL_law 230 = .ok (.ishr, 1) := by decide +kernel
theorem dL_law_231 : decode cL_law 231 = .ok (.bipush 12, 2) := by decide +kernel
theorem dL_law_233 : decode cL_law 233 = .ok (.invokestatic 47, 3) := by decide +kernel
theorem dL_law_236 : decode cL_law 236 = .ok (.iload 5, 2) := by decide +kernel
theorem dL_law_238 : decode cL_law 238 = .ok (.bipush 10, 2) := by decide +kernel
theorem dL_law_240 : decode cL_law 240 = .ok (.ishr, 1) := by decide +kernel
theorem dL_law_241 : decode cL_law 241 = .ok (.bipush 32, 2) := by decide +kernel
theorem dL_law_243 : decode cL_law 243 = .ok (.invokestatic 47, 3) := by decide +kernel
theorem dL_law_246 : decode cL_law 246 = .ok (.invokestatic 110, 3) := by decide +kernel
theorem dL_law_249 : decode cL_law 249 = .ok (.ifCond .eq 25, 3) := by decide +kernel
theorem dL_law_252 : decode cL_law 252 = .ok (.aload_n 1, 1) := by decide +kernel
theorem dL_law_253 : decode cL_law 253 = .ok (.invokestatic 114, 3) := by decide +kernel
theorem dL_law_256 : decode cL_law 256 = .ok (.ifCond .eq 18, 3) := by decide +kernel
theorem dL_law_259 : decode cL_law 259 = .ok (.aload_n 1, 1) := by decide +kernel
theorem dL_law_260 : decode cL_law 260 = .ok (.invokestatic 118, 3) := by decide +kernel
theorem dL_law_263 : decode cL_law 263 = .ok (.ifCond .eq 11, 3) := by decide +kernel
theorem dL_law_266 : decode cL_law 266 = .ok (.aload_n 1, 1) := by decide +kernel
theorem dL_law_267 : decode cL_law 267 = .ok (.aload_n 2, 1) := by decide +kernel
theorem dL_law_268 : decode cL_law 268 = .ok (.invokestatic 106, 3) := by decide +kernel
theorem dL_law_271 : decode cL_law 271 = .ok (.ifCond .ne 5, 3) := by decide +kernel
theorem dL_law_274 : decode cL_law 274 = .ok (.iconst 0, 1) := by decide +kernel
theorem dL_law_275 : decode cL_law 275 = .ok (.ireturn, 1) := by decide +kernel
theorem dL_law_276 : decode cL_law 276 = .ok (.iinc 4 1, 3) := by decide +kernel
theorem dL_law_279 : decode cL_law 279 = .ok (.goto (-256), 3) := by decide +kernel
theorem dL_law_282 : decode cL_law 282 = .ok (.aload_n 1, 1) := by decide +kernel
theorem dL_law_283 : decode cL_law 283 = .ok (.invokestatic 114, 3) := by decide +kernel
theorem dL_law_286 : decode cL_law 286 = .ok (.ireturn, 1) := by decide +kernel
