theorem dL_notes_590 : decode cL_notes 590 = .ok (.if_icmp .lt 7, 3) := by decide +kernel
theorem dL_notes_593 : decode cL_notes 593 = .ok (.iconst 1, 1) := by decide +kernel
theorem dL_notes_594 : decode cL_notes 594 = .ok (.goto 4, 3) := by decide +kernel
theorem dL_notes_597 : decode cL_notes 597 = .ok (.iconst 0, 1) := by decide +kernel
theorem dL_notes_598 : decode cL_notes 598 = .ok (.ireturn, 1) := by decide +kernel
theorem dL_themes_0 : decode cL_themes 0 = .ok (.aload_n 0, 1) := by decide +kernel
theorem dL_themes_1 : decode cL_themes 1 = .ok (.iconst 2, 1) := by decide +kernel
theorem dL_themes_2 : decode cL_themes 2 = .ok (.invokevirtual 13, 3) := by decide +kernel
theorem dL_themes_5 : decode cL_themes 5 = .ok (.istore_n 3, 1) := by decide +kernel
theorem dL_themes_6 : decode cL_themes 6 = .ok (.iload_n 2, 1) := by decide +kernel
theorem dL_themes_7 : decode cL_themes 7 = .ok (.iload_n 3, 1) := by decide +kernel
theorem dL_themes_8 : decode cL_themes 8 = .ok (.iconst 1, 1) := by decide +kernel
theorem dL_themes_9 : decode cL_themes 9 = .ok (.iadd, 1) := by decide +kernel
theorem dL_themes_10 : decode cL_themes 10 = .ok (.invokestatic 37, 3) := by decide +kernel
theorem dL_themes_13 : decode cL_themes 13 = .ok (.istore 4, 2) := by decide +kernel
theorem dL_themes_15 : decode cL_themes 15 = .ok (.iload_n 2, 1) := by decide +kernel
theorem dL_themes_16 : decode cL_themes 16 = .ok (.iconst 4, 1) := by decide +kernel
theorem dL_themes_17 : decode cL_themes 17 = .ok (.ishr, 1) := by decide +kernel
theorem dL_themes_18 : decode cL_themes 18 = .ok (.bipush 7, 2) := by decide +kernel
theorem dL_themes_20 : decode cL_themes 20 = .ok (.invokestatic 37, 3) := by decide +kernel
theorem dL_themes_23 : decode cL_themes 23 = .ok (.istore 5, 2) := by decide +kernel
theorem dL_themes_25 : decode cL_themes 25 = .ok (.iload 4, 2) := by decide +kernel
theorem dL_themes_27 : decode cL_themes 27 = .ok (.iload_n 3, 1) := by decide +kernel
theorem dL_themes_28 : decode cL_themes 28 = .ok (.if_icmp .ne 7, 3) := by decide +kernel
theorem dL_themes_31 : decode cL_themes 31 = .ok (.iconst 1, 1) := by decide +kernel
theorem dL_themes_32 : decode cL_themes 32 = .ok (.goto 4, 3) := by decide +kernel
theorem dL_themes_35 : decode cL_themes 35 = .ok (.iconst 0, 1) := by decide +kernel
theorem dL_themes_36 : decode cL_themes 36 = .ok (.istore 6, 2) := by decide +kernel
theorem dL_themes_38 : decode cL_themes 38 = .ok (.iload_n 1, 1) := by decide +kernel
theorem dL_themes_39 : decode cL_themes 39 = .ok (.iconst 2, 1) := by decide +kernel
theorem dL_themes_40 : decode cL_themes 40 = .ok (.if_icmp .ge 128, 3) := by decide +kernel
theorem dL_themes_43 : decode cL_themes 43 = .ok (.iload_n 2, 1) := by decide +kernel
theorem dL_themes_44 : decode cL_themes 44 = .ok (.aload_n 0, 1) := by decide +kernel
theorem dL_themes_45 : decode cL_themes 45 = .ok (.iconst 1, 1) := by decide +kernel
theorem dL_themes_46 : decode cL_themes 46 = .ok (.invokevirtual 13, 3) := by decide +kernel
theorem dL_themes_49 : decode cL_themes 49 = .ok (.iconst 1, 1) := by decide +kernel
theorem dL_themes_50 : decode cL_themes 50 = .ok (.iadd, 1) := by decide +kernel
theorem dL_themes_51 : decode cL_themes 51 = .ok (.invokestatic 37, 3) := by decide +kernel
theorem dL_themes_54 : decode cL_themes 54 = .ok (.istore 7, 2) := by decide +kernel
theorem dL_themes_56 : decode cL_themes 56 = .ok (.iload 7, 2) := by decide +kernel
theorem dL_themes_58 : decode cL_themes 58 = .ok (.aload_n 0, 1) := by decide +kernel
theorem dL_themes_59 : decode cL_themes 59 = .ok (.iconst 1, 1) := by decide +kernel
theorem dL_themes_60 : decode cL_themes 60 = .ok (.invokevirtual 13, 3) := by decide +kernel
theorem dL_themes_63 : decode cL_themes 63 = .ok (.if_icmp .ne 7, 3) := by decide +kernel
theorem dL_themes_66 : decode cL_themes 66 = .ok (.iconst 1, 1) := by decide +kernel
theorem dL_themes_67 : decode cL_themes 67 = .ok (.goto 4, 3) := by decide +kernel
theorem dL_themes_70 : decode cL_themes 70 = .ok (.iconst 0, 1) := by decide +kernel
theorem dL_themes_71 : decode cL_themes 71 = .ok (.istore 8, 2) := by decide +kernel
theorem dL_themes_73 : decode cL_themes 73 = .ok (.iload 8, 2) := by decide +kernel
theorem dL_themes_75 : decode cL_themes 75 = .ok (.ifCond .eq 7, 3) := by decide +kernel
theorem dL_themes_78 : decode cL_themes 78 = .ok (.iconst 0, 1) := by decide +kernel
theorem dL_themes_79 : decode cL_themes 79 = .ok (.goto 10, 3) := by decide +kernel
theorem dL_themes_82 : decode cL_themes 82 = .ok (.aload_n 0, 1) := by decide +kernel
theorem dL_themes_83 : decode cL_themes 83 = .ok (.iload 7, 2) := by decide +kernel
theorem dL_themes_85 : decode cL_themes 85 = .ok (.iconst 4, 1) := by decide +kernel
theorem dL_themes_86 : decode cL_themes 86 = .ok (.invokevirtual 40, 3) := by decide +kernel
theorem dL_themes_89 : decode cL_themes 89 = .ok (.istore 9, 2) := by decide +kernel
theorem dL_themes_91 : decode cL_themes 91 = .ok (.aload_n 0, 1) := by decide +kernel
theorem dL_themes_92 : decode cL_themes 92 = .ok (.iload 7, 2) := by decide +kernel
theorem dL_themes_94 : decode cL_themes 94 = .ok (.invokevirtual 85, 3) := by decide +kernel
theorem dL_themes_97 : decode cL_themes 97 = .ok (.istore 10, 2) := by decide +kernel
theorem dL_themes_99 : decode cL_themes 99 = .ok (.iload 10, 2) := by decide +kernel
theorem dL_themes_101 : decode cL_themes 101 = .ok (.iload 8, 2) := by decide +kernel
theorem dL_themes_103 : decode cL_themes 103 = .ok (.ifCond .eq 7, 3) := by decide +kernel
theorem dL_themes_106 : decode cL_themes 106 = .ok (.iconst (-1), 1) := by decide +kernel
theorem dL_themes_107 : decode cL_themes 107 = .ok (.goto 25, 3) := by decide +kernel
theorem dL_themes_110 : decode cL_themes 110 = .ok (.iload 9, 2) := by decide +kernel
theorem dL_themes_112 : decode cL_themes 112 = .ok (.ifCond .ne 8, 3) := by decide +kernel
theorem dL_themes_115 : decode cL_themes 115 = .ok (.bipush (-4), 2) := by decide +kernel
theorem dL_themes_117 : decode cL_themes 117 = .ok (.goto 15, 3) := by decide +kernel
theorem dL_themes_120 : decode cL_themes 120 = .ok (.iload_n 3, 1) := by decide +kernel
theorem dL_themes_121 : decode cL_themes 121 = .ok (.bipush 8, 2) := by decide +kernel
theorem dL_themes_123 : decode cL_themes 123 = .ok (.if_icmp .ne 8, 3) := by decide +kernel
theorem dL_themes_126 : decode cL_themes 126 = .ok (.bipush (-3), 2) := by decide +kernel
theorem dL_themes_128 : decode cL_themes 128 = .ok (.goto 4, 3) := by decide +kernel
theorem dL_themes_131 : decode cL_themes 131 = .ok (.iload_n 3, 1) := by decide +kernel
theorem dL_themes_132 : decode cL_themes 132 = .ok (.if_icmp .ne 34, 3) := by decide +kernel
theorem dL_themes_135 : decode cL_themes 135 = .ok (.iload 10, 2) := by decide +kernel
theorem dL_themes_137 : decode cL_themes 137 = .ok (.ifCond .lt 25, 3) := by decide +kernel
theorem dL_themes_140 : decode cL_themes 140 = .ok (.aload_n 0, 1) := by decide +kernel
theorem dL_themes_141 : decode cL_themes 141 = .ok (.iload 10, 2) := by decide +kernel
theorem dL_themes_143 : decode cL_themes 143 = .ok (.iconst 0, 1) := by decide +kernel
theorem dL_themes_144 : decode cL_themes 144 = .ok (.invokevirtual 26, 3) := by decide +kernel
theorem dL_themes_147 : decode cL_themes 147 = .ok (.iload 9, 2) := by decide +kernel
theorem dL_themes_149 : decode cL_themes 149 = .ok (.if_icmp .ne 17, 3) := by decide +kernel
theorem dL_themes_152 : decode cL_themes 152 = .ok (.aload_n 0, 1) := by decide +kernel
theorem dL_themes_153 : decode cL_themes 153 = .ok (.iload 10, 2) := by decide +kernel
theorem dL_themes_155 : decode cL_themes 155 = .ok (.iconst 5, 1) := by decide +kernel
theorem dL_themes_156 : decode cL_themes 156 = .ok (.invokevirtual 26, 3) := by decide +kernel
theorem dL_themes_159 : decode cL_themes 159 = .ok (.ifCond .ne 7, 3) := by decide +kernel
theorem dL_themes_162 : decode cL_themes 162 = .ok (.iconst 1, 1) := by decide +kernel
theorem dL_themes_163 : decode cL_themes 163 = .ok (.goto 4, 3) := by decide +kernel
theorem dL_themes_166 : decode cL_themes 166 = .ok (.iconst 0, 1) := by decide +kernel
theorem dL_themes_167 : decode cL_themes 167 = .ok (.ireturn, 1) := by decide +kernel
theorem dL_themes_168 : decode cL_themes 168 = .ok (.iload_n 1, 1) := by decide +kernel
theorem dL_themes_169 : decode cL_themes 169 = .ok (.iconst 2, 1) := by decide +kernel
theorem dL_themes_170 : decode cL_themes 170 = .ok (.if_icmp .ne 125, 3) := by decide +kernel
theorem dL_themes_173 : decode cL_themes 173 = .ok (.iload_n 2, 1) := by decide +kernel
theorem dL_themes_174 : decode cL_themes 174 = .ok (.iconst 4, 1) := by decide +kernel
theorem dL_themes_175 : decode cL_themes 175 = .ok (.ishr, 1) := by decide +kernel
theorem dL_themes_176 : decode cL_themes 176 = .ok (.iload_n 3, 1) := by decide +kernel
theorem dL_themes_177 : decode cL_themes 177 = .ok (.iconst 1, 1) := by decide +kernel
theorem dL_themes_178 : decode cL_themes 178 = .ok (.iadd, 1) := by decide +kernel
theorem dL_themes_179 : decode cL_themes 179 = .ok (.invokestatic 37, 3) := by decide +kernel
theorem dL_themes_182 : decode cL_themes 182 = .ok (.istore 7, 2) := by decide +kernel
theorem dL_themes_184 : decode cL_themes 184 = .ok (.iload 6, 2) := by decide +kernel
theorem dL_themes_186 : decode cL_themes 186 = .ok (.ifCond .ne 9, 3) := by decide +kernel
theorem dL_themes_189 : decode cL_themes 189 = .ok (.iload 7, 2) := by decide +kernel
theorem dL_themes_191 : decode cL_themes 191 = .ok (.iload_n 3, 1) := by decide +kernel
theorem dL_themes_192 : decode cL_themes 192 = .ok (.if_icmp .ne 7, 3) := by decide +kernel
theorem dL_themes_195 : decode cL_themes 195 = .ok (.iconst 0, 1) := by decide +kernel
theorem dL_themes_196 : decode cL_themes 196 = .ok (.goto 18, 3) := by decide +kernel
theorem dL_themes_199 : decode cL_themes 199 = .ok (.aload_n 0, 1) := by decide +kernel
theorem dL_themes_200 : decode cL_themes 200 = .ok (.iload 4, 2) := by decide +kernel
theorem dL_themes_202 : decode cL_themes 202 = .ok (.iconst 0, 1) := by decide +kernel
theorem dL_themes_203 : decode cL_themes 203 = .ok (.invokevirtual 26, 3) := by decide +kernel
theorem dL_themes_206 : decode cL_themes 206 = .ok (.aload_n 0, 1) := by decide +kernel
theorem dL_themes_207 : decode cL_themes 207 = .ok (.iload 7, 2) := by decide +kernel
theorem dL_themes_209 : decode cL_themes 209 = .ok (.iconst 0, 1) := by decide +kernel
theorem dL_themes_210 : decode cL_themes 210 = .ok (.invokevirtual 26, 3) := by decide +kernel
theorem dL_themes_213 : decode cL_themes 213 = .ok (.iadd, 1) := by decide +kernel
theorem dL_themes_214 : decode cL_themes 214 = .ok (.istore 8, 2) := by decide +kernel
theorem dL_themes_216 : decode cL_themes 216 = .ok (.aload_n 0, 1) := by decide +kernel
theorem dL_themes_217 : decode cL_themes 217 = .ok (.iload 4, 2) := by decide +kernel
theorem dL_themes_219 : decode cL_themes 219 = .ok (.iload 7, 2) := by decide +kernel
theorem dL_themes_221 : decode cL_themes 221 = .ok (.invokevirtual 88, 3) := by decide +kernel
theorem dL_themes_224 : decode cL_themes 224 = .ok (.iload 6, 2) := by decide +kernel
theorem dL_themes_226 : decode cL_themes 226 = .ok (.ifCond .ne 9, 3) := by decide +kernel
theorem dL_themes_229 : decode cL_themes 229 = .ok (.iload 7, 2) := by decide +kernel
theorem dL_themes_231 : decode cL_themes 231 = .ok (.iload_n 3, 1) := by decide +kernel
theorem dL_themes_232 : decode cL_themes 232 = .ok (.if_icmp .ne 7, 3) := by decide +kernel
theorem dL_themes_235 : decode cL_themes 235 = .ok (.iconst (-1), 1) := by decide +kernel
theorem dL_themes_236 : decode cL_themes 236 = .ok (.goto 17, 3) := by decide +kernel
theorem dL_themes_239 : decode cL_themes 239 = .ok (.iload 4, 2) := by decide +kernel
theorem dL_themes_241 : decode cL_themes 241 = .ok (.iload 7, 2) := by decide +kernel
theorem dL_themes_243 : decode cL_themes 243 = .ok (.if_icmp .ne 8, 3) := by decide +kernel
theorem dL_themes_246 : decode cL_themes 246 = .ok (.bipush (-2), 2) := by decide +kernel
theorem dL_themes_248 : decode cL_themes 248 = .ok (.goto 5, 3) := by decide +kernel
theorem dL_themes_251 : decode cL_themes 251 = .ok (.iload 8, 2) := by decide +kernel
theorem dL_themes_253 : decode cL_themes 253 = .ok (.if_icmp .ne 40, 3) := by decide +kernel
theorem dL_themes_256 : decode cL_themes 256 = .ok (.aload_n 0, 1) := by decide +kernel
theorem dL_themes_257 : decode cL_themes 257 = .ok (.iconst 2, 1) := by decide +kernel
theorem dL_themes_258 : decode cL_themes 258 = .ok (.invokevirtual 13, 3) := by decide +kernel
theorem dL_themes_261 : decode cL_themes 261 = .ok (.iload_n 3, 1) := by decide +kernel
theorem dL_themes_262 : decode cL_themes 262 = .ok (.iload 6, 2) := by decide +kernel
theorem dL_themes_264 : decode cL_themes 264 = .ok (.ifCond .ne 16, 3) := by decide +kernel
theorem dL_themes_267 : decode cL_themes 267 = .ok (.iload 7, 2) := by decide +kernel
theorem dL_themes_269 : decode cL_themes 269 = .ok (.iload_n 3, 1) := by decide +kernel
theorem dL_themes_270 : decode cL_themes 270 = .ok (.if_icmp .eq 10, 3) := by decide +kernel
theorem dL_themes_273 : decode cL_themes 273 = .ok (.iload 4, 2) := by decide +kernel
theorem dL_themes_275 : decode cL_themes 275 = .ok (.iload 7, 2) := by decide +kernel
theorem dL_themes_277 : decode cL_themes 277 = .ok (.if_icmp .ne 7, 3) := by decide +kernel
theorem dL_themes_280 : decode cL_themes 280 = .ok (.iconst 0, 1) := by decide +kernel
theorem dL_themes_281 : decode cL_themes 281 = .ok (.goto 4, 3) := by decide +kernel
theorem dL_themes_284 : decode cL_themes 284 = .ok (.iconst 1, 1) := by decide +kernel
theorem dL_themes_285 : decode cL_themes 285 = .ok (.isub, 1) := by decide +kernel
theorem dL_themes_286 : decode cL_themes 286 = .ok (.if_icmp .ne 7, 3) := by decide +kernel
theorem dL_themes_289 : decode cL_themes 289 = .ok (.iconst 1, 1) := by decide +kernel
theorem dL_themes_290 : decode cL_themes 290 = .ok (.goto 4, 3) := by decide +kernel
theorem dL_themes_293 : decode cL_themes 293 = .ok (.iconst 0, 1) := by decide +kernel
theorem dL_themes_294 : decode cL_themes 294 = .ok (.ireturn, 1) := by decide +kernel
theorem dL_themes_295 : decode cL_themes 295 = .ok (.iload_n 1, 1) := by decide +kernel
theorem dL_themes_296 : decode cL_themes 296 = .ok (.iconst 3, 1) := by decide +kernel
theorem dL_themes_297 : decode cL_themes 297 = .ok (.if_icmp .ne 187, 3) := by decide +kernel
theorem dL_themes_300 : decode cL_themes 300 = .ok (.iload_n 2, 1) := by decide +kernel
theorem dL_themes_301 : decode cL_themes 301 = .ok (.bipush 7, 2) := by decide +kernel
theorem dL_themes_303 : decode cL_themes 303 = .ok (.ishr, 1) := by decide +kernel
theorem dL_themes_304 : decode cL_themes 304 = .ok (.aload_n 0, 1) := by decide +kernel
theorem dL_themes_305 : decode cL_themes 305 = .ok (.iconst 0, 1) := by decide +kernel
theorem dL_themes_306 : decode cL_themes 306 = .ok (.invokevirtual 13, 3) := by decide +kernel
