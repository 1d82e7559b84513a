theorem dL_would_14 : decode cL_would 14 = .ok (.iconst 5, 1) := by decide +kernel
theorem dL_would_15 : decode cL_would 15 = .ok (.ishr, 1) := by decide +kernel
theorem dL_would_16 : decode cL_would 16 = .ok (.aload_n 0, 1) := by decide +kernel
theorem dL_would_17 : decode cL_would 17 = .ok (.iconst 0, 1) := by decide +kernel
theorem dL_would_18 : decode cL_would 18 = .ok (.invokevirtual 13, 3) := by decide +kernel
theorem dL_would_21 : decode cL_would 21 = .ok (.iconst 1, 1) := by decide +kernel
theorem dL_would_22 : decode cL_would 22 = .ok (.iadd, 1) := by decide +kernel
theorem dL_would_23 : decode cL_would 23 = .ok (.invokestatic 37, 3) := by decide +kernel
theorem dL_would_26 : decode cL_would 26 = .ok (.istore 4, 2) := by decide +kernel
theorem dL_would_28 : decode cL_would 28 = .ok (.iload_n 1, 1) := by decide +kernel
theorem dL_would_29 : decode cL_would 29 = .ok (.bipush 9, 2) := by decide +kernel
theorem dL_would_31 : decode cL_would 31 = .ok (.ishr, 1) := by decide +kernel
theorem dL_would_32 : decode cL_would 32 = .ok (.bipush 31, 2) := by decide +kernel
theorem dL_would_34 : decode cL_would 34 = .ok (.invokestatic 37, 3) := by decide +kernel
theorem dL_would_37 : decode cL_would 37 = .ok (.istore 5, 2) := by decide +kernel
theorem dL_would_39 : decode cL_would 39 = .ok (.iload_n 1, 1) := by decide +kernel
theorem dL_would_40 : decode cL_would 40 = .ok (.bipush 14, 2) := by decide +kernel
theorem dL_would_42 : decode cL_would 42 = .ok (.ishr, 1) := by decide +kernel
theorem dL_would_43 : decode cL_would 43 = .ok (.bipush 21, 2) := by decide +kernel
theorem dL_would_45 : decode cL_would 45 = .ok (.invokestatic 37, 3) := by decide +kernel
theorem dL_would_48 : decode cL_would 48 = .ok (.istore 6, 2) := by decide +kernel
theorem dL_would_50 : decode cL_would 50 = .ok (.iload_n 1, 1) := by decide +kernel
theorem dL_would_51 : decode cL_would 51 = .ok (.bipush 18, 2) := by decide +kernel
theorem dL_would_53 : decode cL_would 53 = .ok (.ishr, 1) := by decide +kernel
theorem dL_would_54 : decode cL_would 54 = .ok (.iconst 4, 1) := by decide +kernel
theorem dL_would_55 : decode cL_would 55 = .ok (.invokestatic 37, 3) := by decide +kernel
theorem dL_would_58 : decode cL_would 58 = .ok (.istore 7, 2) := by decide +kernel
theorem dL_would_60 : decode cL_would 60 = .ok (.aload_n 0, 1) := by decide +kernel
theorem dL_would_61 : decode cL_would 61 = .ok (.iload 4, 2) := by decide +kernel
theorem dL_would_63 : decode cL_would 63 = .ok (.iload 5, 2) := by decide +kernel
theorem dL_would_65 : decode cL_would 65 = .ok (.iload 6, 2) := by decide +kernel
theorem dL_would_67 : decode cL_would 67 = .ok (.iload 7, 2) := by decide +kernel
theorem dL_would_69 : decode cL_would 69 = .ok (.invokevirtual 50, 3) := by decide +kernel
theorem dL_would_72 : decode cL_would 72 = .ok (.istore 8, 2) := by decide +kernel
theorem dL_would_74 : decode cL_would 74 = .ok (.aload_n 0, 1) := by decide +kernel
theorem dL_would_75 : decode cL_would 75 = .ok (.iload 4, 2) := by decide +kernel
theorem dL_would_77 : decode cL_would 77 = .ok (.invokevirtual 54, 3) := by decide +kernel
theorem dL_would_80 : decode cL_would 80 = .ok (.istore 9, 2) := by decide +kernel
theorem dL_would_82 : decode cL_would 82 = .ok (.iload 4, 2) := by decide +kernel
theorem dL_would_84 : decode cL_would 84 = .ok (.aload_n 0, 1) := by decide +kernel
theorem dL_would_85 : decode cL_would 85 = .ok (.iconst 0, 1) := by decide +kernel
theorem dL_would_86 : decode cL_would 86 = .ok (.invokevirtual 13, 3) := by decide +kernel
theorem dL_would_89 : decode cL_would 89 = .ok (.if_icmp .ne 7, 3) := by decide +kernel
theorem dL_would_92 : decode cL_would 92 = .ok (.iconst 1, 1) := by decide +kernel
theorem dL_would_93 : decode cL_would 93 = .ok (.goto 4, 3) := by decide +kernel
theorem dL_would_96 : decode cL_would 96 = .ok (.iconst 0, 1) := by decide +kernel
theorem dL_would_97 : decode cL_would 97 = .ok (.istore 10, 2) := by decide +kernel
theorem dL_would_99 : decode cL_would 99 = .ok (.iload 10, 2) := by decide +kernel
theorem dL_would_101 : decode cL_would 101 = .ok (.ifCond .ne 17, 3) := by decide +kernel
theorem dL_would_104 : decode cL_would 104 = .ok (.iload 5, 2) := by decide +kernel
theorem dL_would_106 : decode cL_would 106 = .ok (.bipush 30, 2) := by decide +kernel
theorem dL_would_108 : decode cL_would 108 = .ok (.if_icmp .eq 10, 3) := by decide +kernel
theorem dL_would_111 : decode cL_would 111 = .ok (.iload 6, 2) := by decide +kernel
theorem dL_would_113 : decode cL_would 113 = .ok (.bipush 20, 2) := by decide +kernel
theorem dL_would_115 : decode cL_would 115 = .ok (.if_icmp .ne 7, 3) := by decide +kernel
theorem dL_would_118 : decode cL_would 118 = .ok (.iconst 1, 1) := by decide +kernel
theorem dL_would_119 : decode cL_would 119 = .ok (.goto 4, 3) := by decide +kernel
theorem dL_would_122 : decode cL_would 122 = .ok (.iconst 0, 1) := by decide +kernel
theorem dL_would_123 : decode cL_would 123 = .ok (.istore 11, 2) := by decide +kernel
theorem dL_would_125 : decode cL_would 125 = .ok (.iload_n 2, 1) := by decide +kernel
theorem dL_would_126 : decode cL_would 126 = .ok (.ifCond .eq 9, 3) := by decide +kernel
theorem dL_would_129 : decode cL_would 129 = .ok (.iload_n 2, 1) := by decide +kernel
theorem dL_would_130 : decode cL_would 130 = .ok (.bipush 21, 2) := by decide +kernel
theorem dL_would_132 : decode cL_would 132 = .ok (.if_icmp .ne 12, 3) := by decide +kernel
theorem dL_would_135 : decode cL_would 135 = .ok (.iload_n 3, 1) := by decide +kernel
theorem dL_would_136 : decode cL_would 136 = .ok (.bipush (-2), 2) := by decide +kernel
theorem dL_would_138 : decode cL_would 138 = .ok (.if_icmp .ne 69, 3) := by decide +kernel
theorem dL_would_141 : decode cL_would 141 = .ok (.goto 26, 3) := by decide +kernel
theorem dL_would_144 : decode cL_would 144 = .ok (.iload_n 3, 1) := by decide +kernel
theorem dL_would_145 : decode cL_would 145 = .ok (.ifCond .lt 62, 3) := by decide +kernel
theorem dL_would_148 : decode cL_would 148 = .ok (.iload_n 3, 1) := by decide +kernel
theorem dL_would_149 : decode cL_would 149 = .ok (.bipush 48, 2) := by decide +kernel
theorem dL_would_151 : decode cL_would 151 = .ok (.if_icmp .gt 56, 3) := by decide +kernel
theorem dL_would_154 : decode cL_would 154 = .ok (.iload_n 2, 1) := by decide +kernel
theorem dL_would_155 : decode cL_would 155 = .ok (.aload_n 0, 1) := by decide +kernel
theorem dL_would_156 : decode cL_would 156 = .ok (.iconst 0, 1) := by decide +kernel
theorem dL_would_157 : decode cL_would 157 = .ok (.invokevirtual 13, 3) := by decide +kernel
theorem dL_would_160 : decode cL_would 160 = .ok (.if_icmp .lt 7, 3) := by decide +kernel
theorem dL_would_163 : decode cL_would 163 = .ok (.iload_n 3, 1) := by decide +kernel
theorem dL_would_164 : decode cL_would 164 = .ok (.ifCond .ne 43, 3) := by decide +kernel
theorem dL_would_167 : decode cL_would 167 = .ok (.iload 10, 2) := by decide +kernel
theorem dL_would_169 : decode cL_would 169 = .ok (.ifCond .eq 12, 3) := by decide +kernel
theorem dL_would_172 : decode cL_would 172 = .ok (.iload 9, 2) := by decide +kernel
theorem dL_would_174 : decode cL_would 174 = .ok (.iconst (-1), 1) := by decide +kernel
theorem dL_would_175 : decode cL_would 175 = .ok (.if_icmp .ne 32, 3) := by decide +kernel
theorem dL_would_178 : decode cL_would 178 = .ok (.goto 25, 3) := by decide +kernel
theorem dL_would_181 : decode cL_would 181 = .ok (.iload 9, 2) := by decide +kernel
theorem dL_would_183 : decode cL_would 183 = .ok (.bipush (-5), 2) := by decide +kernel
theorem dL_would_185 : decode cL_would 185 = .ok (.if_icmp .eq 18, 3) := by decide +kernel
theorem dL_would_188 : decode cL_would 188 = .ok (.iload 9, 2) := by decide +kernel
theorem dL_would_190 : decode cL_would 190 = .ok (.ifCond .lt 17, 3) := by decide +kernel
theorem dL_would_193 : decode cL_would 193 = .ok (.iload 9, 2) := by decide +kernel
theorem dL_would_195 : decode cL_would 195 = .ok (.aload_n 0, 1) := by decide +kernel
theorem dL_would_196 : decode cL_would 196 = .ok (.iconst 2, 1) := by decide +kernel
theorem dL_would_197 : decode cL_would 197 = .ok (.invokevirtual 13, 3) := by decide +kernel
theorem dL_would_200 : decode cL_would 200 = .ok (.if_icmp .ge 7, 3) := by decide +kernel
theorem dL_would_203 : decode cL_would 203 = .ok (.iconst 1, 1) := by decide +kernel
theorem dL_would_204 : decode cL_would 204 = .ok (.goto 4, 3) := by decide +kernel
theorem dL_would_207 : decode cL_would 207 = .ok (.iconst 0, 1) := by decide +kernel
theorem dL_would_208 : decode cL_would 208 = .ok (.istore 12, 2) := by decide +kernel
theorem dL_would_210 : decode cL_would 210 = .ok (.iload 12, 2) := by decide +kernel
theorem dL_would_212 : decode cL_would 212 = .ok (.ifCond .eq 77, 3) := by decide +kernel
theorem dL_would_215 : decode cL_would 215 = .ok (.iload 11, 2) := by decide +kernel
theorem dL_would_217 : decode cL_would 217 = .ok (.ifCond .eq 12, 3) := by decide +kernel
theorem dL_would_220 : decode cL_would 220 = .ok (.iload 8, 2) := by decide +kernel
theorem dL_would_222 : decode cL_would 222 = .ok (.iconst (-1), 1) := by decide +kernel
theorem dL_would_223 : decode cL_would 223 = .ok (.if_icmp .ne 66, 3) := by decide +kernel
theorem dL_would_226 : decode cL_would 226 = .ok (.goto 59, 3) := by decide +kernel
theorem dL_would_229 : decode cL_would 229 = .ok (.iload 7, 2) := by decide +kernel
theorem dL_would_231 : decode cL_would 231 = .ok (.iconst 3, 1) := by decide +kernel
theorem dL_would_232 : decode cL_would 232 = .ok (.if_icmp .ne 13, 3) := by decide +kernel
theorem dL_would_235 : decode cL_would 235 = .ok (.iload 8, 2) := by decide +kernel
theorem dL_would_237 : decode cL_would 237 = .ok (.bipush (-2), 2) := by decide +kernel
theorem dL_would_239 : decode cL_would 239 = .ok (.if_icmp .ne 50, 3) := by decide +kernel
theorem dL_would_242 : decode cL_would 242 = .ok (.goto 43, 3) := by decide +kernel
theorem dL_would_245 : decode cL_would 245 = .ok (.iload 7, 2) := by decide +kernel
theorem dL_would_247 : decode cL_would 247 = .ok (.iconst 2, 1) := by decide +kernel
theorem dL_would_248 : decode cL_would 248 = .ok (.if_icmp .ne 21, 3) := by decide +kernel
theorem dL_would_251 : decode cL_would 251 = .ok (.iload 8, 2) := by decide +kernel
theorem dL_would_253 : decode cL_would 253 = .ok (.ifCond .lt 36, 3) := by decide +kernel
theorem dL_would_256 : decode cL_would 256 = .ok (.iload 8, 2) := by decide +kernel
theorem dL_would_258 : decode cL_would 258 = .ok (.aload_n 0, 1) := by decide +kernel
theorem dL_would_259 : decode cL_would 259 = .ok (.iconst 0, 1) := by decide +kernel
theorem dL_would_260 : decode cL_would 260 = .ok (.invokevirtual 13, 3) := by decide +kernel
theorem dL_would_263 : decode cL_would 263 = .ok (.if_icmp .ge 26, 3) := by decide +kernel
theorem dL_would_266 : decode cL_would 266 = .ok (.goto 19, 3) := by decide +kernel
theorem dL_would_269 : decode cL_would 269 = .ok (.iload 8, 2) := by decide +kernel
theorem dL_would_271 : decode cL_would 271 = .ok (.iconst 1, 1) := by decide +kernel
theorem dL_would_272 : decode cL_would 272 = .ok (.if_icmp .lt 17, 3) := by decide +kernel
theorem dL_would_275 : decode cL_would 275 = .ok (.iload 8, 2) := by decide +kernel
theorem dL_would_277 : decode cL_would 277 = .ok (.aload_n 0, 1) := by decide +kernel
theorem dL_would_278 : decode cL_would 278 = .ok (.iconst 0, 1) := by decide +kernel
theorem dL_would_279 : decode cL_would 279 = .ok (.invokevirtual 13, 3) := by decide +kernel
theorem dL_would_282 : decode cL_would 282 = .ok (.if_icmp .gt 7, 3) := by decide +kernel
theorem dL_would_285 : decode cL_would 285 = .ok (.iconst 1, 1) := by decide +kernel
theorem dL_would_286 : decode cL_would 286 = .ok (.goto 4, 3) := by decide +kernel
theorem dL_would_289 : decode cL_would 289 = .ok (.iconst 0, 1) := by decide +kernel
theorem dL_would_290 : decode cL_would 290 = .ok (.ireturn, 1) := by decide +kernel
theorem dL_types_0 : decode cL_types 0 = .ok (.iconst 1, 1) := by decide +kernel
theorem dL_types_1 : decode cL_types 1 = .ok (.iload_n 1, 1) := by decide +kernel
theorem dL_types_2 : decode cL_types 2 = .ok (.bipush 6, 2) := by decide +kernel
theorem dL_types_4 : decode cL_types 4 = .ok (.invokestatic 37, 3) := by decide +kernel
theorem dL_types_7 : decode cL_types 7 = .ok (.iadd, 1) := by decide +kernel
theorem dL_types_8 : decode cL_types 8 = .ok (.istore_n 2, 1) := by decide +kernel
theorem dL_types_9 : decode cL_types 9 = .ok (.aload_n 0, 1) := by decide +kernel
theorem dL_types_10 : decode cL_types 10 = .ok (.invokevirtual 57, 3) := by decide +kernel
theorem dL_types_13 : decode cL_types 13 = .ok (.ifCond .lt 7, 3) := by decide +kernel
theorem dL_types_16 : decode cL_types 16 = .ok (.iconst 1, 1) := by decide +kernel
theorem dL_types_17 : decode cL_types 17 = .ok (.goto 4, 3) := by decide +kernel
theorem dL_types_20 : decode cL_types 20 = .ok (.iconst 0, 1) := by decide +kernel
theorem dL_types_21 : decode cL_types 21 = .ok (.istore_n 3, 1) := by decide +kernel
theorem dL_types_22 : decode cL_types 22 = .ok (.iconst 0, 1) := by decide +kernel
theorem dL_types_23 : decode cL_types 23 = .ok (.istore 4, 2) := by decide +kernel
theorem dL_types_25 : decode cL_types 25 = .ok (.iload 4, 2) := by decide +kernel
theorem dL_types_27 : decode cL_types 27 = .ok (.iload_n 2, 1) := by decide +kernel
theorem dL_types_28 : decode cL_types 28 = .ok (.if_icmp .ge 225, 3) := by decide +kernel
theorem dL_types_31 : decode cL_types 31 = .ok (.iload_n 1, 1) := by decide +kernel
theorem dL_types_32 : decode cL_types 32 = .ok (.iconst 3, 1) := by decide +kernel
theorem dL_types_33 : decode cL_types 33 = .ok (.iconst 4, 1) := by decide +kernel
theorem dL_types_34 : decode cL_types 34 = .ok (.iload 4, 2) := by decide +kernel
theorem dL_types_36 : decode cL_types 36 = .ok (.imul, 1) := by decide +kernel
theorem dL_types_37 : decode cL_types 37 = .ok (.iadd, 1) := by decide +kernel
theorem dL_types_38 : decode cL_types 38 = .ok (.ishr, 1) := by decide +kernel
theorem dL_types_39 : decode cL_types 39 = .ok (.istore 5, 2) := by decide +kernel
theorem dL_types_41 : decode cL_types 41 = .ok (.iload 5, 2) := by decide +kernel
theorem dL_types_43 : decode cL_types 43 = .ok (.iload_n 1, 1) := by decide +kernel
theorem dL_types_44 : decode cL_types 44 = .ok (.bipush 21, 2) := by decide +kernel
theorem dL_types_46 : decode cL_types 46 = .ok (.ishr, 1) := by decide +kernel
theorem dL_types_47 : decode cL_types 47 = .ok (.bipush 9, 2) := by decide +kernel
theorem dL_types_49 : decode cL_types 49 = .ok (.invokestatic 37, 3) := by decide +kernel
