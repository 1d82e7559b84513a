theorem dL_types_52 : decode cL_types 52 = .ok (.ifCond .ne 8, 3) := by decide +kernel
theorem dL_types_55 : decode cL_types 55 = .ok (.bipush 32, 2) := by decide +kernel
theorem dL_types_57 : decode cL_types 57 = .ok (.goto 5, 3) := by decide +kernel
theorem dL_types_60 : decode cL_types 60 = .ok (.bipush 30, 2) := by decide +kernel
theorem dL_types_62 : decode cL_types 62 = .ok (.invokestatic 37, 3) := by decide +kernel
theorem dL_types_65 : decode cL_types 65 = .ok (.istore 6, 2) := by decide +kernel
theorem dL_types_67 : decode cL_types 67 = .ok (.iload 5, 2) := by decide +kernel
theorem dL_types_69 : decode cL_types 69 = .ok (.iconst 2, 1) := by decide +kernel
theorem dL_types_70 : decode cL_types 70 = .ok (.ishr, 1) := by decide +kernel
theorem dL_types_71 : decode cL_types 71 = .ok (.iload_n 1, 1) := by decide +kernel
theorem dL_types_72 : decode cL_types 72 = .ok (.bipush 22, 2) := by decide +kernel
theorem dL_types_74 : decode cL_types 74 = .ok (.ishr, 1) := by decide +kernel
theorem dL_types_75 : decode cL_types 75 = .ok (.bipush 9, 2) := by decide +kernel
theorem dL_types_77 : decode cL_types 77 = .ok (.invokestatic 37, 3) := by decide +kernel
theorem dL_types_80 : decode cL_types 80 = .ok (.ifCond .ne 8, 3) := by decide +kernel
theorem dL_types_83 : decode cL_types 83 = .ok (.bipush 22, 2) := by decide +kernel
theorem dL_types_85 : decode cL_types 85 = .ok (.goto 5, 3) := by decide +kernel
theorem dL_types_88 : decode cL_types 88 = .ok (.bipush 20, 2) := by decide +kernel
theorem dL_types_90 : decode cL_types 90 = .ok (.invokestatic 37, 3) := by decide +kernel
theorem dL_types_93 : decode cL_types 93 = .ok (.istore 7, 2) := by decide +kernel
theorem dL_types_95 : decode cL_types 95 = .ok (.iload_n 3, 1) := by decide +kernel
theorem dL_types_96 : decode cL_types 96 = .ok (.ifCond .eq 108, 3) := by decide +kernel
theorem dL_types_99 : decode cL_types 99 = .ok (.iload 4, 2) := by decide +kernel
theorem dL_types_101 : decode cL_types 101 = .ok (.ifCond .eq 12, 3) := by decide +kernel
theorem dL_types_104 : decode cL_types 104 = .ok (.aload_n 0, 1) := by decide +kernel
theorem dL_types_105 : decode cL_types 105 = .ok (.bipush 59, 2) := by decide +kernel
theorem dL_types_107 : decode cL_types 107 = .ok (.invokevirtual 61, 3) := by decide +kernel
theorem dL_types_110 : decode cL_types 110 = .ok (.ifCond .le 94, 3) := by decide +kernel
theorem dL_types_113 : decode cL_types 113 = .ok (.iload 6, 2) := by decide +kernel
theorem dL_types_115 : decode cL_types 115 = .ok (.bipush 10, 2) := by decide +kernel
theorem dL_types_117 : decode cL_types 117 = .ok (.if_icmp .lt 19, 3) := by decide +kernel
theorem dL_types_120 : decode cL_types 120 = .ok (.aload_n 0, 1) := by decide +kernel
theorem dL_types_121 : decode cL_types 121 = .ok (.bipush 48, 2) := by decide +kernel
theorem dL_types_123 : decode cL_types 123 = .ok (.iload 6, 2) := by decide +kernel
theorem dL_types_125 : decode cL_types 125 = .ok (.bipush 10, 2) := by decide +kernel
theorem dL_types_127 : decode cL_types 127 = .ok (.idiv, 1) := by decide +kernel
theorem dL_types_128 : decode cL_types 128 = .ok (.iadd, 1) := by decide +kernel
theorem dL_types_129 : decode cL_types 129 = .ok (.i2c, 1) := by decide +kernel
theorem dL_types_130 : decode cL_types 130 = .ok (.invokevirtual 61, 3) := by decide +kernel
theorem dL_types_133 : decode cL_types 133 = .ok (.ifCond .le 71, 3) := by decide +kernel
theorem dL_types_136 : decode cL_types 136 = .ok (.aload_n 0, 1) := by decide +kernel
theorem dL_types_137 : decode cL_types 137 = .ok (.bipush 48, 2) := by decide +kernel
theorem dL_types_139 : decode cL_types 139 = .ok (.iload 6, 2) := by decide +kernel
theorem dL_types_141 : decode cL_types 141 = .ok (.bipush 10, 2) := by decide +kernel
theorem dL_types_143 : decode cL_types 143 = .ok (.irem, 1) := by decide +kernel
theorem dL_types_144 : decode cL_types 144 = .ok (.iadd, 1) := by decide +kernel
theorem dL_types_145 : decode cL_types 145 = .ok (.i2c, 1) := by decide +kernel
theorem dL_types_146 : decode cL_types 146 = .ok (.invokevirtual 61, 3) := by decide +kernel
theorem dL_types_149 : decode cL_types 149 = .ok (.ifCond .le 55, 3) := by decide +kernel
theorem dL_types_152 : decode cL_types 152 = .ok (.aload_n 0, 1) := by decide +kernel
theorem dL_types_153 : decode cL_types 153 = .ok (.bipush 44, 2) := by decide +kernel
theorem dL_types_155 : decode cL_types 155 = .ok (.invokevirtual 61, 3) := by decide +kernel
theorem dL_types_158 : decode cL_types 158 = .ok (.ifCond .le 46, 3) := by decide +kernel
theorem dL_types_161 : decode cL_types 161 = .ok (.iload 7, 2) := by decide +kernel
theorem dL_types_163 : decode cL_types 163 = .ok (.bipush 10, 2) := by decide +kernel
theorem dL_types_165 : decode cL_types 165 = .ok (.if_icmp .lt 19, 3) := by decide +kernel
theorem dL_types_168 : decode cL_types 168 = .ok (.aload_n 0, 1) := by decide +kernel
theorem dL_types_169 : decode cL_types 169 = .ok (.bipush 48, 2) := by decide +kernel
theorem dL_types_171 : decode cL_types 171 = .ok (.iload 7, 2) := by decide +kernel
theorem dL_types_173 : decode cL_types 173 = .ok (.bipush 10, 2) := by decide +kernel
theorem dL_types_175 : decode cL_types 175 = .ok (.idiv, 1) := by decide +kernel
theorem dL_types_176 : decode cL_types 176 = .ok (.iadd, 1) := by decide +kernel
theorem dL_types_177 : decode cL_types 177 = .ok (.i2c, 1) := by decide +kernel
theorem dL_types_178 : decode cL_types 178 = .ok (.invokevirtual 61, 3) := by decide +kernel
theorem dL_types_181 : decode cL_types 181 = .ok (.ifCond .le 23, 3) := by decide +kernel
theorem dL_types_184 : decode cL_types 184 = .ok (.aload_n 0, 1) := by decide +kernel
theorem dL_types_185 : decode cL_types 185 = .ok (.bipush 48, 2) := by decide +kernel
theorem dL_types_187 : decode cL_types 187 = .ok (.iload 7, 2) := by decide +kernel
theorem dL_types_189 : decode cL_types 189 = .ok (.bipush 10, 2) := by decide +kernel
theorem dL_types_191 : decode cL_types 191 = .ok (.irem, 1) := by decide +kernel
theorem dL_types_192 : decode cL_types 192 = .ok (.iadd, 1) := by decide +kernel
theorem dL_types_193 : decode cL_types 193 = .ok (.i2c, 1) := by decide +kernel
theorem dL_types_194 : decode cL_types 194 = .ok (.invokevirtual 61, 3) := by decide +kernel
theorem dL_types_197 : decode cL_types 197 = .ok (.ifCond .le 7, 3) := by decide +kernel
theorem dL_types_200 : decode cL_types 200 = .ok (.iconst 1, 1) := by decide +kernel
theorem dL_types_201 : decode cL_types 201 = .ok (.goto 4, 3) := by decide +kernel
theorem dL_types_204 : decode cL_types 204 = .ok (.iconst 0, 1) := by decide +kernel
theorem dL_types_205 : decode cL_types 205 = .ok (.istore_n 3, 1) := by decide +kernel
theorem dL_types_206 : decode cL_types 206 = .ok (.iload 5, 2) := by decide +kernel
theorem dL_types_208 : decode cL_types 208 = .ok (.iconst 1, 1) := by decide +kernel
theorem dL_types_209 : decode cL_types 209 = .ok (.ishr, 1) := by decide +kernel
theorem dL_types_210 : decode cL_types 210 = .ok (.iconst 4, 1) := by decide +kernel
theorem dL_types_211 : decode cL_types 211 = .ok (.invokestatic 37, 3) := by decide +kernel
theorem dL_types_214 : decode cL_types 214 = .ok (.istore 8, 2) := by decide +kernel
theorem dL_types_216 : decode cL_types 216 = .ok (.iload 8, 2) := by decide +kernel
theorem dL_types_218 : decode cL_types 218 = .ok (.iconst 1, 1) := by decide +kernel
theorem dL_types_219 : decode cL_types 219 = .ok (.if_icmp .le 28, 3) := by decide +kernel
theorem dL_types_222 : decode cL_types 222 = .ok (.iload_n 3, 1) := by decide +kernel
theorem dL_types_223 : decode cL_types 223 = .ok (.ifCond .eq 24, 3) := by decide +kernel
theorem dL_types_226 : decode cL_types 226 = .ok (.aload_n 0, 1) := by decide +kernel
theorem dL_types_227 : decode cL_types 227 = .ok (.bipush 42, 2) := by decide +kernel
theorem dL_types_229 : decode cL_types 229 = .ok (.invokevirtual 61, 3) := by decide +kernel
theorem dL_types_232 : decode cL_types 232 = .ok (.ifCond .le 7, 3) := by decide +kernel
theorem dL_types_235 : decode cL_types 235 = .ok (.iconst 1, 1) := by decide +kernel
theorem dL_types_236 : decode cL_types 236 = .ok (.goto 4, 3) := by decide +kernel
theorem dL_types_239 : decode cL_types 239 = .ok (.iconst 0, 1) := by decide +kernel
theorem dL_types_240 : decode cL_types 240 = .ok (.istore_n 3, 1) := by decide +kernel
theorem dL_types_241 : decode cL_types 241 = .ok (.iinc 8 (-1), 3) := by decide +kernel
theorem dL_types_244 : decode cL_types 244 = .ok (.goto (-28), 3) := by decide +kernel
theorem dL_types_247 : decode cL_types 247 = .ok (.iinc 4 1, 3) := by decide +kernel
theorem dL_types_250 : decode cL_types 250 = .ok (.goto (-225), 3) := by decide +kernel
theorem dL_types_253 : decode cL_types 253 = .ok (.iload_n 3, 1) := by decide +kernel
theorem dL_types_254 : decode cL_types 254 = .ok (.ifCond .eq 28, 3) := by decide +kernel
theorem dL_types_257 : decode cL_types 257 = .ok (.iload_n 1, 1) := by decide +kernel
theorem dL_types_258 : decode cL_types 258 = .ok (.bipush 26, 2) := by decide +kernel
theorem dL_types_260 : decode cL_types 260 = .ok (.ishr, 1) := by decide +kernel
theorem dL_types_261 : decode cL_types 261 = .ok (.bipush 6, 2) := by decide +kernel
theorem dL_types_263 : decode cL_types 263 = .ok (.invokestatic 37, 3) := by decide +kernel
theorem dL_types_266 : decode cL_types 266 = .ok (.ifCond .gt 12, 3) := by decide +kernel
theorem dL_types_269 : decode cL_types 269 = .ok (.aload_n 0, 1) := by decide +kernel
theorem dL_types_270 : decode cL_types 270 = .ok (.bipush 59, 2) := by decide +kernel
theorem dL_types_272 : decode cL_types 272 = .ok (.invokevirtual 61, 3) := by decide +kernel
theorem dL_types_275 : decode cL_types 275 = .ok (.ifCond .le 7, 3) := by decide +kernel
theorem dL_types_278 : decode cL_types 278 = .ok (.iconst 1, 1) := by decide +kernel
theorem dL_types_279 : decode cL_types 279 = .ok (.goto 4, 3) := by decide +kernel
theorem dL_types_282 : decode cL_types 282 = .ok (.iconst 0, 1) := by decide +kernel
theorem dL_types_283 : decode cL_types 283 = .ok (.ireturn, 1) := by decide +kernel
theorem dL_reads_0 : decode cL_reads 0 = .ok (.aload_n 0, 1) := by decide +kernel
theorem dL_reads_1 : decode cL_reads 1 = .ok (.bipush 11, 2) := by decide +kernel
theorem dL_reads_3 : decode cL_reads 3 = .ok (.invokevirtual 13, 3) := by decide +kernel
theorem dL_reads_6 : decode cL_reads 6 = .ok (.istore_n 2, 1) := by decide +kernel
theorem dL_reads_7 : decode cL_reads 7 = .ok (.aload_n 0, 1) := by decide +kernel
theorem dL_reads_8 : decode cL_reads 8 = .ok (.iconst 0, 1) := by decide +kernel
theorem dL_reads_9 : decode cL_reads 9 = .ok (.invokevirtual 13, 3) := by decide +kernel
theorem dL_reads_12 : decode cL_reads 12 = .ok (.istore_n 3, 1) := by decide +kernel
theorem dL_reads_13 : decode cL_reads 13 = .ok (.aload_n 0, 1) := by decide +kernel
theorem dL_reads_14 : decode cL_reads 14 = .ok (.iload_n 1, 1) := by decide +kernel
theorem dL_reads_15 : decode cL_reads 15 = .ok (.invokestatic 65, 3) := by decide +kernel
theorem dL_reads_18 : decode cL_reads 18 = .ok (.istore 4, 2) := by decide +kernel
theorem dL_reads_20 : decode cL_reads 20 = .ok (.aload_n 0, 1) := by decide +kernel
theorem dL_reads_21 : decode cL_reads 21 = .ok (.bipush 12, 2) := by decide +kernel
theorem dL_reads_23 : decode cL_reads 23 = .ok (.invokevirtual 13, 3) := by decide +kernel
theorem dL_reads_26 : decode cL_reads 26 = .ok (.istore 5, 2) := by decide +kernel
theorem dL_reads_28 : decode cL_reads 28 = .ok (.aload_n 0, 1) := by decide +kernel
theorem dL_reads_29 : decode cL_reads 29 = .ok (.invokevirtual 69, 3) := by decide +kernel
theorem dL_reads_32 : decode cL_reads 32 = .ok (.istore 6, 2) := by decide +kernel
theorem dL_reads_34 : decode cL_reads 34 = .ok (.iload 4, 2) := by decide +kernel
theorem dL_reads_36 : decode cL_reads 36 = .ok (.ifCond .eq 138, 3) := by decide +kernel
theorem dL_reads_39 : decode cL_reads 39 = .ok (.aload_n 0, 1) := by decide +kernel
theorem dL_reads_40 : decode cL_reads 40 = .ok (.bipush 12, 2) := by decide +kernel
theorem dL_reads_42 : decode cL_reads 42 = .ok (.invokevirtual 13, 3) := by decide +kernel
theorem dL_reads_45 : decode cL_reads 45 = .ok (.iload 5, 2) := by decide +kernel
theorem dL_reads_47 : decode cL_reads 47 = .ok (.if_icmp .ne 127, 3) := by decide +kernel
theorem dL_reads_50 : decode cL_reads 50 = .ok (.iload 6, 2) := by decide +kernel
theorem dL_reads_52 : decode cL_reads 52 = .ok (.ifCond .ge 42, 3) := by decide +kernel
theorem dL_reads_55 : decode cL_reads 55 = .ok (.iload 6, 2) := by decide +kernel
theorem dL_reads_57 : decode cL_reads 57 = .ok (.bipush (-100), 2) := by decide +kernel
theorem dL_reads_59 : decode cL_reads 59 = .ok (.if_icmp .gt 115, 3) := by decide +kernel
theorem dL_reads_62 : decode cL_reads 62 = .ok (.iload 6, 2) := by decide +kernel
theorem dL_reads_64 : decode cL_reads 64 = .ok (.bipush (-100), 2) := by decide +kernel
theorem dL_reads_66 : decode cL_reads 66 = .ok (.iload 5, 2) := by decide +kernel
theorem dL_reads_68 : decode cL_reads 68 = .ok (.isub, 1) := by decide +kernel
theorem dL_reads_69 : decode cL_reads 69 = .ok (.if_icmp .lt 105, 3) := by decide +kernel
theorem dL_reads_72 : decode cL_reads 72 = .ok (.aload_n 0, 1) := by decide +kernel
theorem dL_reads_73 : decode cL_reads 73 = .ok (.bipush 11, 2) := by decide +kernel
theorem dL_reads_75 : decode cL_reads 75 = .ok (.invokevirtual 13, 3) := by decide +kernel
theorem dL_reads_78 : decode cL_reads 78 = .ok (.iload_n 2, 1) := by decide +kernel
theorem dL_reads_79 : decode cL_reads 79 = .ok (.if_icmp .ne 95, 3) := by decide +kernel
theorem dL_reads_82 : decode cL_reads 82 = .ok (.aload_n 0, 1) := by decide +kernel
theorem dL_reads_83 : decode cL_reads 83 = .ok (.iconst 0, 1) := by decide +kernel
theorem dL_reads_84 : decode cL_reads 84 = .ok (.invokevirtual 13, 3) := by decide +kernel
theorem dL_reads_87 : decode cL_reads 87 = .ok (.iload_n 3, 1) := by decide +kernel
theorem dL_reads_88 : decode cL_reads 88 = .ok (.if_icmp .ne 86, 3) := by decide +kernel
theorem dL_reads_91 : decode cL_reads 91 = .ok (.goto 79, 3) := by decide +kernel
theorem dL_reads_94 : decode cL_reads 94 = .ok (.iload 6, 2) := by decide +kernel
theorem dL_reads_96 : decode cL_reads 96 = .ok (.iconst 1, 1) := by decide +kernel
theorem dL_reads_97 : decode cL_reads 97 = .ok (.iload_n 1, 1) := by decide +kernel
theorem dL_reads_98 : decode cL_reads 98 = .ok (.bipush 6, 2) := by decide +kernel
theorem dL_reads_100 : decode cL_reads 100 = .ok (.invokestatic 37, 3) := by decide +kernel
theorem dL_reads_103 : decode cL_reads 103 = .ok (.iadd, 1) := by decide +kernel
