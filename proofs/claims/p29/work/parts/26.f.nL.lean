theorem dL_reads_104 : decode cL_reads 104 = .ok (.if_icmp .ne 70, 3) := by decide +kernel
theorem dL_reads_107 : decode cL_reads 107 = .ok (.aload_n 0, 1) := by decide +kernel
theorem dL_reads_108 : decode cL_reads 108 = .ok (.iconst 0, 1) := by decide +kernel
theorem dL_reads_109 : decode cL_reads 109 = .ok (.invokevirtual 13, 3) := by decide +kernel
theorem dL_reads_112 : decode cL_reads 112 = .ok (.iload 6, 2) := by decide +kernel
theorem dL_reads_114 : decode cL_reads 114 = .ok (.if_icmp .ne 60, 3) := by decide +kernel
theorem dL_reads_117 : decode cL_reads 117 = .ok (.aload_n 0, 1) := by decide +kernel
theorem dL_reads_118 : decode cL_reads 118 = .ok (.iconst 2, 1) := by decide +kernel
theorem dL_reads_119 : decode cL_reads 119 = .ok (.invokevirtual 13, 3) := by decide +kernel
theorem dL_reads_122 : decode cL_reads 122 = .ok (.ifCond .ne 52, 3) := by decide +kernel
theorem dL_reads_125 : decode cL_reads 125 = .ok (.aload_n 0, 1) := by decide +kernel
theorem dL_reads_126 : decode cL_reads 126 = .ok (.iconst 5, 1) := by decide +kernel
theorem dL_reads_127 : decode cL_reads 127 = .ok (.invokevirtual 13, 3) := by decide +kernel
theorem dL_reads_130 : decode cL_reads 130 = .ok (.iload 6, 2) := by decide +kernel
theorem dL_reads_132 : decode cL_reads 132 = .ok (.if_icmp .ne 42, 3) := by decide +kernel
theorem dL_reads_135 : decode cL_reads 135 = .ok (.aload_n 0, 1) := by decide +kernel
theorem dL_reads_136 : decode cL_reads 136 = .ok (.bipush 11, 2) := by decide +kernel
theorem dL_reads_138 : decode cL_reads 138 = .ok (.invokevirtual 13, 3) := by decide +kernel
theorem dL_reads_141 : decode cL_reads 141 = .ok (.iload_n 2, 1) := by decide +kernel
theorem dL_reads_142 : decode cL_reads 142 = .ok (.iconst 4, 1) := by decide +kernel
theorem dL_reads_143 : decode cL_reads 143 = .ok (.if_icmp .ge 9, 3) := by decide +kernel
theorem dL_reads_146 : decode cL_reads 146 = .ok (.iload_n 2, 1) := by decide +kernel
theorem dL_reads_147 : decode cL_reads 147 = .ok (.iconst 1, 1) := by decide +kernel
theorem dL_reads_148 : decode cL_reads 148 = .ok (.iadd, 1) := by decide +kernel
theorem dL_reads_149 : decode cL_reads 149 = .ok (.goto 4, 3) := by decide +kernel
theorem dL_reads_152 : decode cL_reads 152 = .ok (.iconst 4, 1) := by decide +kernel
theorem dL_reads_153 : decode cL_reads 153 = .ok (.if_icmp .ne 21, 3) := by decide +kernel
theorem dL_reads_156 : decode cL_reads 156 = .ok (.aload_n 0, 1) := by decide +kernel
theorem dL_reads_157 : decode cL_reads 157 = .ok (.iconst 3, 1) := by decide +kernel
theorem dL_reads_158 : decode cL_reads 158 = .ok (.invokevirtual 13, 3) := by decide +kernel
theorem dL_reads_161 : decode cL_reads 161 = .ok (.aload_n 0, 1) := by decide +kernel
theorem dL_reads_162 : decode cL_reads 162 = .ok (.bipush 9, 2) := by decide +kernel
theorem dL_reads_164 : decode cL_reads 164 = .ok (.invokevirtual 13, 3) := by decide +kernel
theorem dL_reads_167 : decode cL_reads 167 = .ok (.if_icmp .gt 7, 3) := by decide +kernel
theorem dL_reads_170 : decode cL_reads 170 = .ok (.iconst 1, 1) := by decide +kernel
theorem dL_reads_171 : decode cL_reads 171 = .ok (.goto 4, 3) := by decide +kernel
theorem dL_reads_174 : decode cL_reads 174 = .ok (.iconst 0, 1) := by decide +kernel
theorem dL_reads_175 : decode cL_reads 175 = .ok (.ireturn, 1) := by decide +kernel
theorem dL_notes_0 : decode cL_notes 0 = .ok (.aload_n 0, 1) := by decide +kernel
theorem dL_notes_1 : decode cL_notes 1 = .ok (.iconst 0, 1) := by decide +kernel
theorem dL_notes_2 : decode cL_notes 2 = .ok (.invokevirtual 13, 3) := by decide +kernel
theorem dL_notes_5 : decode cL_notes 5 = .ok (.istore_n 3, 1) := by decide +kernel
theorem dL_notes_6 : decode cL_notes 6 = .ok (.iload_n 2, 1) := by decide +kernel
theorem dL_notes_7 : decode cL_notes 7 = .ok (.iload_n 3, 1) := by decide +kernel
theorem dL_notes_8 : decode cL_notes 8 = .ok (.iconst 1, 1) := by decide +kernel
theorem dL_notes_9 : decode cL_notes 9 = .ok (.iadd, 1) := by decide +kernel
theorem dL_notes_10 : decode cL_notes 10 = .ok (.invokestatic 37, 3) := by decide +kernel
theorem dL_notes_13 : decode cL_notes 13 = .ok (.istore 4, 2) := by decide +kernel
theorem dL_notes_15 : decode cL_notes 15 = .ok (.iload 4, 2) := by decide +kernel
theorem dL_notes_17 : decode cL_notes 17 = .ok (.iload_n 3, 1) := by decide +kernel
theorem dL_notes_18 : decode cL_notes 18 = .ok (.if_icmp .ne 7, 3) := by decide +kernel
theorem dL_notes_21 : decode cL_notes 21 = .ok (.iconst 1, 1) := by decide +kernel
theorem dL_notes_22 : decode cL_notes 22 = .ok (.goto 4, 3) := by decide +kernel
theorem dL_notes_25 : decode cL_notes 25 = .ok (.iconst 0, 1) := by decide +kernel
theorem dL_notes_26 : decode cL_notes 26 = .ok (.istore 5, 2) := by decide +kernel
theorem dL_notes_28 : decode cL_notes 28 = .ok (.iload_n 2, 1) := by decide +kernel
theorem dL_notes_29 : decode cL_notes 29 = .ok (.iconst 5, 1) := by decide +kernel
theorem dL_notes_30 : decode cL_notes 30 = .ok (.ishr, 1) := by decide +kernel
theorem dL_notes_31 : decode cL_notes 31 = .ok (.iload_n 2, 1) := by decide +kernel
theorem dL_notes_32 : decode cL_notes 32 = .ok (.bipush 17, 2) := by decide +kernel
theorem dL_notes_34 : decode cL_notes 34 = .ok (.ishr, 1) := by decide +kernel
theorem dL_notes_35 : decode cL_notes 35 = .ok (.iconst 3, 1) := by decide +kernel
theorem dL_notes_36 : decode cL_notes 36 = .ok (.invokestatic 37, 3) := by decide +kernel
theorem dL_notes_39 : decode cL_notes 39 = .ok (.ifCond .ne 8, 3) := by decide +kernel
theorem dL_notes_42 : decode cL_notes 42 = .ok (.bipush 31, 2) := by decide +kernel
theorem dL_notes_44 : decode cL_notes 44 = .ok (.goto 5, 3) := by decide +kernel
theorem dL_notes_47 : decode cL_notes 47 = .ok (.bipush 12, 2) := by decide +kernel
theorem dL_notes_49 : decode cL_notes 49 = .ok (.invokestatic 37, 3) := by decide +kernel
theorem dL_notes_52 : decode cL_notes 52 = .ok (.istore 6, 2) := by decide +kernel
theorem dL_notes_54 : decode cL_notes 54 = .ok (.iload_n 2, 1) := by decide +kernel
theorem dL_notes_55 : decode cL_notes 55 = .ok (.bipush 10, 2) := by decide +kernel
theorem dL_notes_57 : decode cL_notes 57 = .ok (.ishr, 1) := by decide +kernel
theorem dL_notes_58 : decode cL_notes 58 = .ok (.iload_n 2, 1) := by decide +kernel
theorem dL_notes_59 : decode cL_notes 59 = .ok (.bipush 18, 2) := by decide +kernel
theorem dL_notes_61 : decode cL_notes 61 = .ok (.ishr, 1) := by decide +kernel
theorem dL_notes_62 : decode cL_notes 62 = .ok (.iconst 3, 1) := by decide +kernel
theorem dL_notes_63 : decode cL_notes 63 = .ok (.invokestatic 37, 3) := by decide +kernel
theorem dL_notes_66 : decode cL_notes 66 = .ok (.ifCond .ne 8, 3) := by decide +kernel
theorem dL_notes_69 : decode cL_notes 69 = .ok (.bipush 21, 2) := by decide +kernel
theorem dL_notes_71 : decode cL_notes 71 = .ok (.goto 5, 3) := by decide +kernel
theorem dL_notes_74 : decode cL_notes 74 = .ok (.bipush 8, 2) := by decide +kernel
theorem dL_notes_76 : decode cL_notes 76 = .ok (.invokestatic 37, 3) := by decide +kernel
theorem dL_notes_79 : decode cL_notes 79 = .ok (.istore 7, 2) := by decide +kernel
theorem dL_notes_81 : decode cL_notes 81 = .ok (.iload 6, 2) := by decide +kernel
theorem dL_notes_83 : decode cL_notes 83 = .ok (.bipush 30, 2) := by decide +kernel
theorem dL_notes_85 : decode cL_notes 85 = .ok (.if_icmp .eq 10, 3) := by decide +kernel
theorem dL_notes_88 : decode cL_notes 88 = .ok (.iload 7, 2) := by decide +kernel
theorem dL_notes_90 : decode cL_notes 90 = .ok (.bipush 20, 2) := by decide +kernel
theorem dL_notes_92 : decode cL_notes 92 = .ok (.if_icmp .ne 7, 3) := by decide +kernel
theorem dL_notes_95 : decode cL_notes 95 = .ok (.iconst 1, 1) := by decide +kernel
theorem dL_notes_96 : decode cL_notes 96 = .ok (.goto 4, 3) := by decide +kernel
theorem dL_notes_99 : decode cL_notes 99 = .ok (.iconst 0, 1) := by decide +kernel
theorem dL_notes_100 : decode cL_notes 100 = .ok (.istore 8, 2) := by decide +kernel
theorem dL_notes_102 : decode cL_notes 102 = .ok (.iload_n 1, 1) := by decide +kernel
theorem dL_notes_103 : decode cL_notes 103 = .ok (.iconst 4, 1) := by decide +kernel
theorem dL_notes_104 : decode cL_notes 104 = .ok (.if_icmp .ge 83, 3) := by decide +kernel
theorem dL_notes_107 : decode cL_notes 107 = .ok (.aload_n 0, 1) := by decide +kernel
theorem dL_notes_108 : decode cL_notes 108 = .ok (.iload 6, 2) := by decide +kernel
theorem dL_notes_110 : decode cL_notes 110 = .ok (.iload 7, 2) := by decide +kernel
theorem dL_notes_112 : decode cL_notes 112 = .ok (.invokevirtual 72, 3) := by decide +kernel
theorem dL_notes_115 : decode cL_notes 115 = .ok (.iload 8, 2) := by decide +kernel
theorem dL_notes_117 : decode cL_notes 117 = .ok (.ifCond .eq 7, 3) := by decide +kernel
theorem dL_notes_120 : decode cL_notes 120 = .ok (.iconst (-1), 1) := by decide +kernel
theorem dL_notes_121 : decode cL_notes 121 = .ok (.goto 15, 3) := by decide +kernel
theorem dL_notes_124 : decode cL_notes 124 = .ok (.iload_n 3, 1) := by decide +kernel
theorem dL_notes_125 : decode cL_notes 125 = .ok (.bipush 20, 2) := by decide +kernel
theorem dL_notes_127 : decode cL_notes 127 = .ok (.if_icmp .ne 8, 3) := by decide +kernel
theorem dL_notes_130 : decode cL_notes 130 = .ok (.bipush (-3), 2) := by decide +kernel
theorem dL_notes_132 : decode cL_notes 132 = .ok (.goto 4, 3) := by decide +kernel
theorem dL_notes_135 : decode cL_notes 135 = .ok (.iload_n 3, 1) := by decide +kernel
theorem dL_notes_136 : decode cL_notes 136 = .ok (.if_icmp .ne 49, 3) := by decide +kernel
theorem dL_notes_139 : decode cL_notes 139 = .ok (.iload 8, 2) := by decide +kernel
theorem dL_notes_141 : decode cL_notes 141 = .ok (.ifCond .ne 40, 3) := by decide +kernel
theorem dL_notes_144 : decode cL_notes 144 = .ok (.iload_n 3, 1) := by decide +kernel
theorem dL_notes_145 : decode cL_notes 145 = .ok (.bipush 20, 2) := by decide +kernel
theorem dL_notes_147 : decode cL_notes 147 = .ok (.if_icmp .eq 34, 3) := by decide +kernel
theorem dL_notes_150 : decode cL_notes 150 = .ok (.aload_n 0, 1) := by decide +kernel
theorem dL_notes_151 : decode cL_notes 151 = .ok (.iload_n 3, 1) := by decide +kernel
theorem dL_notes_152 : decode cL_notes 152 = .ok (.iconst 0, 1) := by decide +kernel
theorem dL_notes_153 : decode cL_notes 153 = .ok (.invokevirtual 19, 3) := by decide +kernel
theorem dL_notes_156 : decode cL_notes 156 = .ok (.iload 6, 2) := by decide +kernel
theorem dL_notes_158 : decode cL_notes 158 = .ok (.if_icmp .ne 27, 3) := by decide +kernel
theorem dL_notes_161 : decode cL_notes 161 = .ok (.aload_n 0, 1) := by decide +kernel
theorem dL_notes_162 : decode cL_notes 162 = .ok (.iload_n 3, 1) := by decide +kernel
theorem dL_notes_163 : decode cL_notes 163 = .ok (.iconst 4, 1) := by decide +kernel
theorem dL_notes_164 : decode cL_notes 164 = .ok (.invokevirtual 19, 3) := by decide +kernel
theorem dL_notes_167 : decode cL_notes 167 = .ok (.bipush (-5), 2) := by decide +kernel
theorem dL_notes_169 : decode cL_notes 169 = .ok (.if_icmp .ne 16, 3) := by decide +kernel
theorem dL_notes_172 : decode cL_notes 172 = .ok (.aload_n 0, 1) := by decide +kernel
theorem dL_notes_173 : decode cL_notes 173 = .ok (.iload_n 3, 1) := by decide +kernel
theorem dL_notes_174 : decode cL_notes 174 = .ok (.iconst 2, 1) := by decide +kernel
theorem dL_notes_175 : decode cL_notes 175 = .ok (.invokevirtual 19, 3) := by decide +kernel
theorem dL_notes_178 : decode cL_notes 178 = .ok (.ifCond .ne 7, 3) := by decide +kernel
theorem dL_notes_181 : decode cL_notes 181 = .ok (.iconst 1, 1) := by decide +kernel
theorem dL_notes_182 : decode cL_notes 182 = .ok (.goto 4, 3) := by decide +kernel
theorem dL_notes_185 : decode cL_notes 185 = .ok (.iconst 0, 1) := by decide +kernel
theorem dL_notes_186 : decode cL_notes 186 = .ok (.ireturn, 1) := by decide +kernel
theorem dL_notes_187 : decode cL_notes 187 = .ok (.iload_n 1, 1) := by decide +kernel
theorem dL_notes_188 : decode cL_notes 188 = .ok (.bipush 6, 2) := by decide +kernel
theorem dL_notes_190 : decode cL_notes 190 = .ok (.if_icmp .ge 120, 3) := by decide +kernel
theorem dL_notes_193 : decode cL_notes 193 = .ok (.iload 5, 2) := by decide +kernel
theorem dL_notes_195 : decode cL_notes 195 = .ok (.ifCond .ne 31, 3) := by decide +kernel
theorem dL_notes_198 : decode cL_notes 198 = .ok (.aload_n 0, 1) := by decide +kernel
theorem dL_notes_199 : decode cL_notes 199 = .ok (.iload 4, 2) := by decide +kernel
theorem dL_notes_201 : decode cL_notes 201 = .ok (.iconst 0, 1) := by decide +kernel
theorem dL_notes_202 : decode cL_notes 202 = .ok (.invokevirtual 19, 3) := by decide +kernel
theorem dL_notes_205 : decode cL_notes 205 = .ok (.iload 6, 2) := by decide +kernel
theorem dL_notes_207 : decode cL_notes 207 = .ok (.if_icmp .ne 19, 3) := by decide +kernel
theorem dL_notes_210 : decode cL_notes 210 = .ok (.aload_n 0, 1) := by decide +kernel
theorem dL_notes_211 : decode cL_notes 211 = .ok (.iload 4, 2) := by decide +kernel
theorem dL_notes_213 : decode cL_notes 213 = .ok (.iconst 1, 1) := by decide +kernel
theorem dL_notes_214 : decode cL_notes 214 = .ok (.invokevirtual 19, 3) := by decide +kernel
theorem dL_notes_217 : decode cL_notes 217 = .ok (.iload 7, 2) := by decide +kernel
theorem dL_notes_219 : decode cL_notes 219 = .ok (.if_icmp .ne 7, 3) := by decide +kernel
theorem dL_notes_222 : decode cL_notes 222 = .ok (.iconst 1, 1) := by decide +kernel
theorem dL_notes_223 : decode cL_notes 223 = .ok (.goto 4, 3) := by decide +kernel
theorem dL_notes_226 : decode cL_notes 226 = .ok (.iconst 0, 1) := by decide +kernel
theorem dL_notes_227 : decode cL_notes 227 = .ok (.istore 9, 2) := by decide +kernel
theorem dL_notes_229 : decode cL_notes 229 = .ok (.aload_n 0, 1) := by decide +kernel
theorem dL_notes_230 : decode cL_notes 230 = .ok (.iload 4, 2) := by decide +kernel
theorem dL_notes_232 : decode cL_notes 232 = .ok (.iload 6, 2) := by decide +kernel
theorem dL_notes_234 : decode cL_notes 234 = .ok (.iload 7, 2) := by decide +kernel
theorem dL_notes_236 : decode cL_notes 236 = .ok (.invokevirtual 75, 3) := by decide +kernel
theorem dL_notes_239 : decode cL_notes 239 = .ok (.istore 10, 2) := by decide +kernel
theorem dL_notes_241 : decode cL_notes 241 = .ok (.iload 10, 2) := by decide +kernel
theorem dL_notes_243 : decode cL_notes 243 = .ok (.iload 5, 2) := by decide +kernel
theorem dL_notes_245 : decode cL_notes 245 = .ok (.ifCond .ne 8, 3) := by decide +kernel
theorem dL_notes_248 : decode cL_notes 248 = .ok (.iload 8, 2) := by decide +kernel
theorem dL_notes_250 : decode cL_notes 250 = .ok (.ifCond .eq 7, 3) := by decide +kernel
theorem dL_notes_253 : decode cL_notes 253 = .ok (.iconst (-1), 1) := by decide +kernel
