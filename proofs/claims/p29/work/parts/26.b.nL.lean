theorem dL_holds_5 : decode cL_holds 5 = .ok (.istore_n 2, 1) := by decide +kernel
theorem dL_holds_6 : decode cL_holds 6 = .ok (.aload_n 0, 1) := by decide +kernel
theorem dL_holds_7 : decode cL_holds 7 = .ok (.iconst 1, 1) := by decide +kernel
theorem dL_holds_8 : decode cL_holds 8 = .ok (.invokevirtual 13, 3) := by decide +kernel
theorem dL_holds_11 : decode cL_holds 11 = .ok (.istore_n 3, 1) := by decide +kernel
theorem dL_holds_12 : decode cL_holds 12 = .ok (.aload_n 0, 1) := by decide +kernel
theorem dL_holds_13 : decode cL_holds 13 = .ok (.iconst 2, 1) := by decide +kernel
theorem dL_holds_14 : decode cL_holds 14 = .ok (.invokevirtual 13, 3) := by decide +kernel
theorem dL_holds_17 : decode cL_holds 17 = .ok (.istore 4, 2) := by decide +kernel
theorem dL_holds_19 : decode cL_holds 19 = .ok (.iconst 0, 1) := by decide +kernel
theorem dL_holds_20 : decode cL_holds 20 = .ok (.istore 5, 2) := by decide +kernel
theorem dL_holds_22 : decode cL_holds 22 = .ok (.iconst 0, 1) := by decide +kernel
theorem dL_holds_23 : decode cL_holds 23 = .ok (.istore 6, 2) := by decide +kernel
theorem dL_holds_25 : decode cL_holds 25 = .ok (.iconst 0, 1) := by decide +kernel
theorem dL_holds_26 : decode cL_holds 26 = .ok (.istore 7, 2) := by decide +kernel
theorem dL_holds_28 : decode cL_holds 28 = .ok (.iload_n 3, 1) := by decide +kernel
theorem dL_holds_29 : decode cL_holds 29 = .ok (.iload_n 2, 1) := by decide +kernel
theorem dL_holds_30 : decode cL_holds 30 = .ok (.if_icmp .gt 45, 3) := by decide +kernel
theorem dL_holds_33 : decode cL_holds 33 = .ok (.iload_n 3, 1) := by decide +kernel
theorem dL_holds_34 : decode cL_holds 34 = .ok (.ifCond .ne 7, 3) := by decide +kernel
theorem dL_holds_37 : decode cL_holds 37 = .ok (.iconst 1, 1) := by decide +kernel
theorem dL_holds_38 : decode cL_holds 38 = .ok (.goto 4, 3) := by decide +kernel
theorem dL_holds_41 : decode cL_holds 41 = .ok (.iconst 0, 1) := by decide +kernel
theorem dL_holds_42 : decode cL_holds 42 = .ok (.iload_n 2, 1) := by decide +kernel
theorem dL_holds_43 : decode cL_holds 43 = .ok (.ifCond .ne 7, 3) := by decide +kernel
theorem dL_holds_46 : decode cL_holds 46 = .ok (.iconst 1, 1) := by decide +kernel
theorem dL_holds_47 : decode cL_holds 47 = .ok (.goto 4, 3) := by decide +kernel
theorem dL_holds_50 : decode cL_holds 50 = .ok (.iconst 0, 1) := by decide +kernel
theorem dL_holds_51 : decode cL_holds 51 = .ok (.if_icmp .ne 24, 3) := by decide +kernel
theorem dL_holds_54 : decode cL_holds 54 = .ok (.aload_n 0, 1) := by decide +kernel
theorem dL_holds_55 : decode cL_holds 55 = .ok (.bipush 7, 2) := by decide +kernel
theorem dL_holds_57 : decode cL_holds 57 = .ok (.invokevirtual 13, 3) := by decide +kernel
theorem dL_holds_60 : decode cL_holds 60 = .ok (.iload_n 3, 1) := by decide +kernel
theorem dL_holds_61 : decode cL_holds 61 = .ok (.if_icmp .gt 14, 3) := by decide +kernel
theorem dL_holds_64 : decode cL_holds 64 = .ok (.iload 4, 2) := by decide +kernel
theorem dL_holds_66 : decode cL_holds 66 = .ok (.bipush 8, 2) := by decide +kernel
theorem dL_holds_68 : decode cL_holds 68 = .ok (.if_icmp .gt 7, 3) := by decide +kernel
theorem dL_holds_71 : decode cL_holds 71 = .ok (.iconst 1, 1) := by decide +kernel
theorem dL_holds_72 : decode cL_holds 72 = .ok (.goto 4, 3) := by decide +kernel
theorem dL_holds_75 : decode cL_holds 75 = .ok (.iconst 0, 1) := by decide +kernel
theorem dL_holds_76 : decode cL_holds 76 = .ok (.istore 8, 2) := by decide +kernel
theorem dL_holds_78 : decode cL_holds 78 = .ok (.iconst 0, 1) := by decide +kernel
theorem dL_holds_79 : decode cL_holds 79 = .ok (.istore 9, 2) := by decide +kernel
theorem dL_holds_81 : decode cL_holds 81 = .ok (.iload 9, 2) := by decide +kernel
theorem dL_holds_83 : decode cL_holds 83 = .ok (.bipush 6, 2) := by decide +kernel
theorem dL_holds_85 : decode cL_holds 85 = .ok (.if_icmp .ge 76, 3) := by decide +kernel
theorem dL_holds_88 : decode cL_holds 88 = .ok (.iconst 0, 1) := by decide +kernel
theorem dL_holds_89 : decode cL_holds 89 = .ok (.istore 10, 2) := by decide +kernel
theorem dL_holds_91 : decode cL_holds 91 = .ok (.iconst 0, 1) := by decide +kernel
theorem dL_holds_92 : decode cL_holds 92 = .ok (.istore 11, 2) := by decide +kernel
theorem dL_holds_94 : decode cL_holds 94 = .ok (.iload 11, 2) := by decide +kernel
theorem dL_holds_96 : decode cL_holds 96 = .ok (.iload_n 2, 1) := by decide +kernel
theorem dL_holds_97 : decode cL_holds 97 = .ok (.if_icmp .ge 22, 3) := by decide +kernel
theorem dL_holds_100 : decode cL_holds 100 = .ok (.iload 10, 2) := by decide +kernel
theorem dL_holds_102 : decode cL_holds 102 = .ok (.aload_n 0, 1) := by decide +kernel
theorem dL_holds_103 : decode cL_holds 103 = .ok (.iload 9, 2) := by decide +kernel
theorem dL_holds_105 : decode cL_holds 105 = .ok (.iload 11, 2) := by decide +kernel
theorem dL_holds_107 : decode cL_holds 107 = .ok (.invokevirtual 23, 3) := by decide +kernel
theorem dL_holds_110 : decode cL_holds 110 = .ok (.iadd, 1) := by decide +kernel
theorem dL_holds_111 : decode cL_holds 111 = .ok (.istore 10, 2) := by decide +kernel
theorem dL_holds_113 : decode cL_holds 113 = .ok (.iinc 11 1, 3) := by decide +kernel
theorem dL_holds_116 : decode cL_holds 116 = .ok (.goto (-22), 3) := by decide +kernel
theorem dL_holds_119 : decode cL_holds 119 = .ok (.iload 5, 2) := by decide +kernel
theorem dL_holds_121 : decode cL_holds 121 = .ok (.iload 10, 2) := by decide +kernel
theorem dL_holds_123 : decode cL_holds 123 = .ok (.iadd, 1) := by decide +kernel
theorem dL_holds_124 : decode cL_holds 124 = .ok (.istore 5, 2) := by decide +kernel
theorem dL_holds_126 : decode cL_holds 126 = .ok (.iload 7, 2) := by decide +kernel
theorem dL_holds_128 : decode cL_holds 128 = .ok (.iload 10, 2) := by decide +kernel
theorem dL_holds_130 : decode cL_holds 130 = .ok (.aload_n 0, 1) := by decide +kernel
theorem dL_holds_131 : decode cL_holds 131 = .ok (.bipush 9, 2) := by decide +kernel
theorem dL_holds_133 : decode cL_holds 133 = .ok (.invokevirtual 13, 3) := by decide +kernel
theorem dL_holds_136 : decode cL_holds 136 = .ok (.if_icmp .ge 15, 3) := by decide +kernel
theorem dL_holds_139 : decode cL_holds 139 = .ok (.aload_n 0, 1) := by decide +kernel
theorem dL_holds_140 : decode cL_holds 140 = .ok (.bipush 9, 2) := by decide +kernel
theorem dL_holds_142 : decode cL_holds 142 = .ok (.invokevirtual 13, 3) := by decide +kernel
theorem dL_holds_145 : decode cL_holds 145 = .ok (.iload 10, 2) := by decide +kernel
theorem dL_holds_147 : decode cL_holds 147 = .ok (.isub, 1) := by decide +kernel
theorem dL_holds_148 : decode cL_holds 148 = .ok (.goto 4, 3) := by decide +kernel
theorem dL_holds_151 : decode cL_holds 151 = .ok (.iconst 0, 1) := by decide +kernel
theorem dL_holds_152 : decode cL_holds 152 = .ok (.iadd, 1) := by decide +kernel
theorem dL_holds_153 : decode cL_holds 153 = .ok (.istore 7, 2) := by decide +kernel
theorem dL_holds_155 : decode cL_holds 155 = .ok (.iinc 9 1, 3) := by decide +kernel
theorem dL_holds_158 : decode cL_holds 158 = .ok (.goto (-77), 3) := by decide +kernel
theorem dL_holds_161 : decode cL_holds 161 = .ok (.iconst 0, 1) := by decide +kernel
theorem dL_holds_162 : decode cL_holds 162 = .ok (.istore 9, 2) := by decide +kernel
theorem dL_holds_164 : decode cL_holds 164 = .ok (.iload 9, 2) := by decide +kernel
theorem dL_holds_166 : decode cL_holds 166 = .ok (.iload 4, 2) := by decide +kernel
theorem dL_holds_168 : decode cL_holds 168 = .ok (.if_icmp .ge 138, 3) := by decide +kernel
theorem dL_holds_171 : decode cL_holds 171 = .ok (.iload 8, 2) := by decide +kernel
theorem dL_holds_173 : decode cL_holds 173 = .ok (.ifCond .eq 133, 3) := by decide +kernel
theorem dL_holds_176 : decode cL_holds 176 = .ok (.iconst 0, 1) := by decide +kernel
theorem dL_holds_177 : decode cL_holds 177 = .ok (.istore 10, 2) := by decide +kernel
theorem dL_holds_179 : decode cL_holds 179 = .ok (.iconst 0, 1) := by decide +kernel
theorem dL_holds_180 : decode cL_holds 180 = .ok (.istore 11, 2) := by decide +kernel
theorem dL_holds_182 : decode cL_holds 182 = .ok (.iload 11, 2) := by decide +kernel
theorem dL_holds_184 : decode cL_holds 184 = .ok (.bipush 10, 2) := by decide +kernel
theorem dL_holds_186 : decode cL_holds 186 = .ok (.if_icmp .ge 22, 3) := by decide +kernel
theorem dL_holds_189 : decode cL_holds 189 = .ok (.iload 10, 2) := by decide +kernel
theorem dL_holds_191 : decode cL_holds 191 = .ok (.aload_n 0, 1) := by decide +kernel
theorem dL_holds_192 : decode cL_holds 192 = .ok (.iload 9, 2) := by decide +kernel
theorem dL_holds_194 : decode cL_holds 194 = .ok (.iload 11, 2) := by decide +kernel
theorem dL_holds_196 : decode cL_holds 196 = .ok (.invokevirtual 29, 3) := by decide +kernel
theorem dL_holds_199 : decode cL_holds 199 = .ok (.iadd, 1) := by decide +kernel
theorem dL_holds_200 : decode cL_holds 200 = .ok (.istore 10, 2) := by decide +kernel
theorem dL_holds_202 : decode cL_holds 202 = .ok (.iinc 11 1, 3) := by decide +kernel
theorem dL_holds_205 : decode cL_holds 205 = .ok (.goto (-23), 3) := by decide +kernel
theorem dL_holds_208 : decode cL_holds 208 = .ok (.iload 6, 2) := by decide +kernel
theorem dL_holds_210 : decode cL_holds 210 = .ok (.aload_n 0, 1) := by decide +kernel
theorem dL_holds_211 : decode cL_holds 211 = .ok (.iload 9, 2) := by decide +kernel
theorem dL_holds_213 : decode cL_holds 213 = .ok (.iconst 2, 1) := by decide +kernel
theorem dL_holds_214 : decode cL_holds 214 = .ok (.invokevirtual 26, 3) := by decide +kernel
theorem dL_holds_217 : decode cL_holds 217 = .ok (.bipush (-5), 2) := by decide +kernel
theorem dL_holds_219 : decode cL_holds 219 = .ok (.if_icmp .ne 7, 3) := by decide +kernel
theorem dL_holds_222 : decode cL_holds 222 = .ok (.iconst 0, 1) := by decide +kernel
theorem dL_holds_223 : decode cL_holds 223 = .ok (.goto 4, 3) := by decide +kernel
theorem dL_holds_226 : decode cL_holds 226 = .ok (.iconst 1, 1) := by decide +kernel
theorem dL_holds_227 : decode cL_holds 227 = .ok (.iadd, 1) := by decide +kernel
theorem dL_holds_228 : decode cL_holds 228 = .ok (.istore 6, 2) := by decide +kernel
theorem dL_holds_230 : decode cL_holds 230 = .ok (.iload 10, 2) := by decide +kernel
theorem dL_holds_232 : decode cL_holds 232 = .ok (.aload_n 0, 1) := by decide +kernel
theorem dL_holds_233 : decode cL_holds 233 = .ok (.iload 9, 2) := by decide +kernel
theorem dL_holds_235 : decode cL_holds 235 = .ok (.iconst 5, 1) := by decide +kernel
theorem dL_holds_236 : decode cL_holds 236 = .ok (.invokevirtual 26, 3) := by decide +kernel
theorem dL_holds_239 : decode cL_holds 239 = .ok (.if_icmp .ne 58, 3) := by decide +kernel
theorem dL_holds_242 : decode cL_holds 242 = .ok (.aload_n 0, 1) := by decide +kernel
theorem dL_holds_243 : decode cL_holds 243 = .ok (.iload 9, 2) := by decide +kernel
theorem dL_holds_245 : decode cL_holds 245 = .ok (.iconst 0, 1) := by decide +kernel
theorem dL_holds_246 : decode cL_holds 246 = .ok (.invokevirtual 26, 3) := by decide +kernel
theorem dL_holds_249 : decode cL_holds 249 = .ok (.ifCond .le 48, 3) := by decide +kernel
theorem dL_holds_252 : decode cL_holds 252 = .ok (.aload_n 0, 1) := by decide +kernel
theorem dL_holds_253 : decode cL_holds 253 = .ok (.iload 9, 2) := by decide +kernel
theorem dL_holds_255 : decode cL_holds 255 = .ok (.iconst 3, 1) := by decide +kernel
theorem dL_holds_256 : decode cL_holds 256 = .ok (.invokevirtual 26, 3) := by decide +kernel
theorem dL_holds_259 : decode cL_holds 259 = .ok (.ifCond .lt 38, 3) := by decide +kernel
theorem dL_holds_262 : decode cL_holds 262 = .ok (.aload_n 0, 1) := by decide +kernel
theorem dL_holds_263 : decode cL_holds 263 = .ok (.iload 9, 2) := by decide +kernel
theorem dL_holds_265 : decode cL_holds 265 = .ok (.iconst 3, 1) := by decide +kernel
theorem dL_holds_266 : decode cL_holds 266 = .ok (.invokevirtual 26, 3) := by decide +kernel
theorem dL_holds_269 : decode cL_holds 269 = .ok (.iload 4, 2) := by decide +kernel
theorem dL_holds_271 : decode cL_holds 271 = .ok (.if_icmp .ge 26, 3) := by decide +kernel
theorem dL_holds_274 : decode cL_holds 274 = .ok (.aload_n 0, 1) := by decide +kernel
theorem dL_holds_275 : decode cL_holds 275 = .ok (.iload 9, 2) := by decide +kernel
theorem dL_holds_277 : decode cL_holds 277 = .ok (.iconst 2, 1) := by decide +kernel
theorem dL_holds_278 : decode cL_holds 278 = .ok (.invokevirtual 26, 3) := by decide +kernel
theorem dL_holds_281 : decode cL_holds 281 = .ok (.bipush (-5), 2) := by decide +kernel
theorem dL_holds_283 : decode cL_holds 283 = .ok (.if_icmp .ne 10, 3) := by decide +kernel
theorem dL_holds_286 : decode cL_holds 286 = .ok (.iload 10, 2) := by decide +kernel
theorem dL_holds_288 : decode cL_holds 288 = .ok (.bipush 6, 2) := by decide +kernel
theorem dL_holds_290 : decode cL_holds 290 = .ok (.if_icmp .gt 7, 3) := by decide +kernel
theorem dL_holds_293 : decode cL_holds 293 = .ok (.iconst 1, 1) := by decide +kernel
theorem dL_holds_294 : decode cL_holds 294 = .ok (.goto 4, 3) := by decide +kernel
theorem dL_holds_297 : decode cL_holds 297 = .ok (.iconst 0, 1) := by decide +kernel
theorem dL_holds_298 : decode cL_holds 298 = .ok (.istore 8, 2) := by decide +kernel
theorem dL_holds_300 : decode cL_holds 300 = .ok (.iinc 9 1, 3) := by decide +kernel
theorem dL_holds_303 : decode cL_holds 303 = .ok (.goto (-139), 3) := by decide +kernel
theorem dL_holds_306 : decode cL_holds 306 = .ok (.iload 8, 2) := by decide +kernel
theorem dL_holds_308 : decode cL_holds 308 = .ok (.ifCond .eq 267, 3) := by decide +kernel
theorem dL_holds_311 : decode cL_holds 311 = .ok (.iload_n 2, 1) := by decide +kernel
theorem dL_holds_312 : decode cL_holds 312 = .ok (.ifCond .le 263, 3) := by decide +kernel
theorem dL_holds_315 : decode cL_holds 315 = .ok (.iload_n 1, 1) := by decide +kernel
theorem dL_holds_316 : decode cL_holds 316 = .ok (.iload_n 2, 1) := by decide +kernel
theorem dL_holds_317 : decode cL_holds 317 = .ok (.invokestatic 37, 3) := by decide +kernel
theorem dL_holds_320 : decode cL_holds 320 = .ok (.istore 9, 2) := by decide +kernel
theorem dL_holds_322 : decode cL_holds 322 = .ok (.iload_n 1, 1) := by decide +kernel
theorem dL_holds_323 : decode cL_holds 323 = .ok (.iconst 5, 1) := by decide +kernel
theorem dL_holds_324 : decode cL_holds 324 = .ok (.ishr, 1) := by decide +kernel
theorem dL_holds_325 : decode cL_holds 325 = .ok (.iload_n 2, 1) := by decide +kernel
theorem dL_holds_326 : decode cL_holds 326 = .ok (.invokestatic 37, 3) := by decide +kernel
theorem dL_holds_329 : decode cL_holds 329 = .ok (.istore 10, 2) := by decide +kernel
theorem dL_holds_331 : decode cL_holds 331 = .ok (.aload_n 0, 1) := by decide +kernel
