theorem dL_themes_655 : decode cL_themes 655 = .ok (.iconst 0, 1) := by decide +kernel
theorem dL_themes_656 : decode cL_themes 656 = .ok (.goto 74, 3) := by decide +kernel
theorem dL_themes_659 : decode cL_themes 659 = .ok (.iload 12, 2) := by decide +kernel
theorem dL_themes_661 : decode cL_themes 661 = .ok (.aload_n 0, 1) := by decide +kernel
theorem dL_themes_662 : decode cL_themes 662 = .ok (.iload 4, 2) := by decide +kernel
theorem dL_themes_664 : decode cL_themes 664 = .ok (.iconst 2, 1) := by decide +kernel
theorem dL_themes_665 : decode cL_themes 665 = .ok (.invokevirtual 26, 3) := by decide +kernel
theorem dL_themes_668 : decode cL_themes 668 = .ok (.bipush (-5), 2) := by decide +kernel
theorem dL_themes_670 : decode cL_themes 670 = .ok (.if_icmp .ne 8, 3) := by decide +kernel
theorem dL_themes_673 : decode cL_themes 673 = .ok (.bipush 10, 2) := by decide +kernel
theorem dL_themes_675 : decode cL_themes 675 = .ok (.goto 10, 3) := by decide +kernel
theorem dL_themes_678 : decode cL_themes 678 = .ok (.aload_n 0, 1) := by decide +kernel
theorem dL_themes_679 : decode cL_themes 679 = .ok (.iload 4, 2) := by decide +kernel
theorem dL_themes_681 : decode cL_themes 681 = .ok (.iconst 2, 1) := by decide +kernel
theorem dL_themes_682 : decode cL_themes 682 = .ok (.invokevirtual 26, 3) := by decide +kernel
theorem dL_themes_685 : decode cL_themes 685 = .ok (.if_icmp .ne 44, 3) := by decide +kernel
theorem dL_themes_688 : decode cL_themes 688 = .ok (.iload 7, 2) := by decide +kernel
theorem dL_themes_690 : decode cL_themes 690 = .ok (.ifCond .ge 20, 3) := by decide +kernel
theorem dL_themes_693 : decode cL_themes 693 = .ok (.aload_n 0, 1) := by decide +kernel
theorem dL_themes_694 : decode cL_themes 694 = .ok (.iload 4, 2) := by decide +kernel
theorem dL_themes_696 : decode cL_themes 696 = .ok (.iconst 5, 1) := by decide +kernel
theorem dL_themes_697 : decode cL_themes 697 = .ok (.invokevirtual 26, 3) := by decide +kernel
theorem dL_themes_700 : decode cL_themes 700 = .ok (.iload 11, 2) := by decide +kernel
theorem dL_themes_702 : decode cL_themes 702 = .ok (.iconst 1, 1) := by decide +kernel
theorem dL_themes_703 : decode cL_themes 703 = .ok (.isub, 1) := by decide +kernel
theorem dL_themes_704 : decode cL_themes 704 = .ok (.if_icmp .ne 25, 3) := by decide +kernel
theorem dL_themes_707 : decode cL_themes 707 = .ok (.goto 18, 3) := by decide +kernel
theorem dL_themes_710 : decode cL_themes 710 = .ok (.aload_n 0, 1) := by decide +kernel
theorem dL_themes_711 : decode cL_themes 711 = .ok (.iload 4, 2) := by decide +kernel
theorem dL_themes_713 : decode cL_themes 713 = .ok (.iload 7, 2) := by decide +kernel
theorem dL_themes_715 : decode cL_themes 715 = .ok (.invokevirtual 29, 3) := by decide +kernel
theorem dL_themes_718 : decode cL_themes 718 = .ok (.iload 10, 2) := by decide +kernel
theorem dL_themes_720 : decode cL_themes 720 = .ok (.iconst 1, 1) := by decide +kernel
theorem dL_themes_721 : decode cL_themes 721 = .ok (.iadd, 1) := by decide +kernel
theorem dL_themes_722 : decode cL_themes 722 = .ok (.if_icmp .ne 7, 3) := by decide +kernel
theorem dL_themes_725 : decode cL_themes 725 = .ok (.iconst 1, 1) := by decide +kernel
theorem dL_themes_726 : decode cL_themes 726 = .ok (.goto 4, 3) := by decide +kernel
theorem dL_themes_729 : decode cL_themes 729 = .ok (.iconst 0, 1) := by decide +kernel
theorem dL_themes_730 : decode cL_themes 730 = .ok (.ireturn, 1) := by decide +kernel
theorem dL_acts_0 : decode cL_acts 0 = .ok (.iload_n 1, 1) := by decide +kernel
theorem dL_acts_1 : decode cL_acts 1 = .ok (.bipush 26, 2) := by decide +kernel
theorem dL_acts_3 : decode cL_acts 3 = .ok (.invokestatic 37, 3) := by decide +kernel
theorem dL_acts_6 : decode cL_acts 6 = .ok (.istore_n 3, 1) := by decide +kernel
theorem dL_acts_7 : decode cL_acts 7 = .ok (.iload_n 3, 1) := by decide +kernel
theorem dL_acts_8 : decode cL_acts 8 = .ok (.bipush 8, 2) := by decide +kernel
theorem dL_acts_10 : decode cL_acts 10 = .ok (.if_icmp .ge 10, 3) := by decide +kernel
theorem dL_acts_13 : decode cL_acts 13 = .ok (.aload_n 0, 1) := by decide +kernel
theorem dL_acts_14 : decode cL_acts 14 = .ok (.iload_n 3, 1) := by decide +kernel
theorem dL_acts_15 : decode cL_acts 15 = .ok (.iload_n 2, 1) := by decide +kernel
theorem dL_acts_16 : decode cL_acts 16 = .ok (.invokestatic 97, 3) := by decide +kernel
theorem dL_acts_19 : decode cL_acts 19 = .ok (.ireturn, 1) := by decide +kernel
theorem dL_acts_20 : decode cL_acts 20 = .ok (.iload_n 3, 1) := by decide +kernel
theorem dL_acts_21 : decode cL_acts 21 = .ok (.bipush 18, 2) := by decide +kernel
theorem dL_acts_23 : decode cL_acts 23 = .ok (.if_icmp .ge 40, 3) := by decide +kernel
theorem dL_acts_26 : decode cL_acts 26 = .ok (.aload_n 0, 1) := by decide +kernel
theorem dL_acts_27 : decode cL_acts 27 = .ok (.iload_n 3, 1) := by decide +kernel
theorem dL_acts_28 : decode cL_acts 28 = .ok (.bipush 10, 2) := by decide +kernel
theorem dL_acts_30 : decode cL_acts 30 = .ok (.if_icmp .ge 7, 3) := by decide +kernel
theorem dL_acts_33 : decode cL_acts 33 = .ok (.iconst 0, 1) := by decide +kernel
theorem dL_acts_34 : decode cL_acts 34 = .ok (.goto 24, 3) := by decide +kernel
theorem dL_acts_37 : decode cL_acts 37 = .ok (.iload_n 3, 1) := by decide +kernel
theorem dL_acts_38 : decode cL_acts 38 = .ok (.bipush 10, 2) := by decide +kernel
theorem dL_acts_40 : decode cL_acts 40 = .ok (.if_icmp .ne 7, 3) := by decide +kernel
theorem dL_acts_43 : decode cL_acts 43 = .ok (.iconst 2, 1) := by decide +kernel
theorem dL_acts_44 : decode cL_acts 44 = .ok (.goto 14, 3) := by decide +kernel
theorem dL_acts_47 : decode cL_acts 47 = .ok (.iload_n 3, 1) := by decide +kernel
theorem dL_acts_48 : decode cL_acts 48 = .ok (.bipush 13, 2) := by decide +kernel
theorem dL_acts_50 : decode cL_acts 50 = .ok (.if_icmp .ge 7, 3) := by decide +kernel
theorem dL_acts_53 : decode cL_acts 53 = .ok (.iconst 3, 1) := by decide +kernel
theorem dL_acts_54 : decode cL_acts 54 = .ok (.goto 4, 3) := by decide +kernel
theorem dL_acts_57 : decode cL_acts 57 = .ok (.iconst 4, 1) := by decide +kernel
theorem dL_acts_58 : decode cL_acts 58 = .ok (.iload_n 2, 1) := by decide +kernel
theorem dL_acts_59 : decode cL_acts 59 = .ok (.invokestatic 101, 3) := by decide +kernel
theorem dL_acts_62 : decode cL_acts 62 = .ok (.ireturn, 1) := by decide +kernel
theorem dL_acts_63 : decode cL_acts 63 = .ok (.iload_n 2, 1) := by decide +kernel
theorem dL_acts_64 : decode cL_acts 64 = .ok (.aload_n 0, 1) := by decide +kernel
theorem dL_acts_65 : decode cL_acts 65 = .ok (.iconst 0, 1) := by decide +kernel
theorem dL_acts_66 : decode cL_acts 66 = .ok (.invokevirtual 13, 3) := by decide +kernel
theorem dL_acts_69 : decode cL_acts 69 = .ok (.iconst 1, 1) := by decide +kernel
theorem dL_acts_70 : decode cL_acts 70 = .ok (.iadd, 1) := by decide +kernel
theorem dL_acts_71 : decode cL_acts 71 = .ok (.invokestatic 37, 3) := by decide +kernel
theorem dL_acts_74 : decode cL_acts 74 = .ok (.istore 4, 2) := by decide +kernel
theorem dL_acts_76 : decode cL_acts 76 = .ok (.iload_n 2, 1) := by decide +kernel
theorem dL_acts_77 : decode cL_acts 77 = .ok (.iconst 5, 1) := by decide +kernel
theorem dL_acts_78 : decode cL_acts 78 = .ok (.ishr, 1) := by decide +kernel
theorem dL_acts_79 : decode cL_acts 79 = .ok (.bipush 7, 2) := by decide +kernel
theorem dL_acts_81 : decode cL_acts 81 = .ok (.invokestatic 37, 3) := by decide +kernel
theorem dL_acts_84 : decode cL_acts 84 = .ok (.istore 5, 2) := by decide +kernel
theorem dL_acts_86 : decode cL_acts 86 = .ok (.iload 4, 2) := by decide +kernel
theorem dL_acts_88 : decode cL_acts 88 = .ok (.aload_n 0, 1) := by decide +kernel
theorem dL_acts_89 : decode cL_acts 89 = .ok (.iconst 0, 1) := by decide +kernel
theorem dL_acts_90 : decode cL_acts 90 = .ok (.invokevirtual 13, 3) := by decide +kernel
theorem dL_acts_93 : decode cL_acts 93 = .ok (.if_icmp .eq 10, 3) := by decide +kernel
theorem dL_acts_96 : decode cL_acts 96 = .ok (.iload 5, 2) := by decide +kernel
theorem dL_acts_98 : decode cL_acts 98 = .ok (.bipush 6, 2) := by decide +kernel
theorem dL_acts_100 : decode cL_acts 100 = .ok (.if_icmp .ne 7, 3) := by decide +kernel
theorem dL_acts_103 : decode cL_acts 103 = .ok (.iconst 1, 1) := by decide +kernel
theorem dL_acts_104 : decode cL_acts 104 = .ok (.goto 4, 3) := by decide +kernel
theorem dL_acts_107 : decode cL_acts 107 = .ok (.iconst 0, 1) := by decide +kernel
theorem dL_acts_108 : decode cL_acts 108 = .ok (.istore 6, 2) := by decide +kernel
theorem dL_acts_110 : decode cL_acts 110 = .ok (.iload 6, 2) := by decide +kernel
theorem dL_acts_112 : decode cL_acts 112 = .ok (.ifCond .eq 7, 3) := by decide +kernel
theorem dL_acts_115 : decode cL_acts 115 = .ok (.iconst 0, 1) := by decide +kernel
theorem dL_acts_116 : decode cL_acts 116 = .ok (.goto 10, 3) := by decide +kernel
theorem dL_acts_119 : decode cL_acts 119 = .ok (.aload_n 0, 1) := by decide +kernel
theorem dL_acts_120 : decode cL_acts 120 = .ok (.iload 4, 2) := by decide +kernel
theorem dL_acts_122 : decode cL_acts 122 = .ok (.iconst 2, 1) := by decide +kernel
theorem dL_acts_123 : decode cL_acts 123 = .ok (.invokevirtual 19, 3) := by decide +kernel
theorem dL_acts_126 : decode cL_acts 126 = .ok (.istore 7, 2) := by decide +kernel
theorem dL_acts_128 : decode cL_acts 128 = .ok (.iload 6, 2) := by decide +kernel
theorem dL_acts_130 : decode cL_acts 130 = .ok (.ifCond .eq 7, 3) := by decide +kernel
theorem dL_acts_133 : decode cL_acts 133 = .ok (.iconst 0, 1) := by decide +kernel
theorem dL_acts_134 : decode cL_acts 134 = .ok (.goto 11, 3) := by decide +kernel
theorem dL_acts_137 : decode cL_acts 137 = .ok (.aload_n 0, 1) := by decide +kernel
theorem dL_acts_138 : decode cL_acts 138 = .ok (.iload 5, 2) := by decide +kernel
theorem dL_acts_140 : decode cL_acts 140 = .ok (.iload 4, 2) := by decide +kernel
theorem dL_acts_142 : decode cL_acts 142 = .ok (.invokevirtual 23, 3) := by decide +kernel
theorem dL_acts_145 : decode cL_acts 145 = .ok (.istore 8, 2) := by decide +kernel
theorem dL_acts_147 : decode cL_acts 147 = .ok (.iload_n 3, 1) := by decide +kernel
theorem dL_acts_148 : decode cL_acts 148 = .ok (.bipush 22, 2) := by decide +kernel
theorem dL_acts_150 : decode cL_acts 150 = .ok (.if_icmp .ge 105, 3) := by decide +kernel
theorem dL_acts_153 : decode cL_acts 153 = .ok (.iconst 0, 1) := by decide +kernel
theorem dL_acts_154 : decode cL_acts 154 = .ok (.istore 9, 2) := by decide +kernel
theorem dL_acts_156 : decode cL_acts 156 = .ok (.iconst 0, 1) := by decide +kernel
theorem dL_acts_157 : decode cL_acts 157 = .ok (.istore 10, 2) := by decide +kernel
theorem dL_acts_159 : decode cL_acts 159 = .ok (.iload 10, 2) := by decide +kernel
theorem dL_acts_161 : decode cL_acts 161 = .ok (.aload_n 0, 1) := by decide +kernel
theorem dL_acts_162 : decode cL_acts 162 = .ok (.iconst 0, 1) := by decide +kernel
theorem dL_acts_163 : decode cL_acts 163 = .ok (.invokevirtual 13, 3) := by decide +kernel
theorem dL_acts_166 : decode cL_acts 166 = .ok (.if_icmp .ge 27, 3) := by decide +kernel
theorem dL_acts_169 : decode cL_acts 169 = .ok (.iload 6, 2) := by decide +kernel
theorem dL_acts_171 : decode cL_acts 171 = .ok (.ifCond .ne 22, 3) := by decide +kernel
theorem dL_acts_174 : decode cL_acts 174 = .ok (.iload 9, 2) := by decide +kernel
theorem dL_acts_176 : decode cL_acts 176 = .ok (.aload_n 0, 1) := by decide +kernel
theorem dL_acts_177 : decode cL_acts 177 = .ok (.iload 5, 2) := by decide +kernel
theorem dL_acts_179 : decode cL_acts 179 = .ok (.iload 10, 2) := by decide +kernel
theorem dL_acts_181 : decode cL_acts 181 = .ok (.invokevirtual 23, 3) := by decide +kernel
theorem dL_acts_184 : decode cL_acts 184 = .ok (.iadd, 1) := by decide +kernel
theorem dL_acts_185 : decode cL_acts 185 = .ok (.istore 9, 2) := by decide +kernel
theorem dL_acts_187 : decode cL_acts 187 = .ok (.iinc 10 1, 3) := by decide +kernel
theorem dL_acts_190 : decode cL_acts 190 = .ok (.goto (-31), 3) := by decide +kernel
theorem dL_acts_193 : decode cL_acts 193 = .ok (.aload_n 0, 1) := by decide +kernel
theorem dL_acts_194 : decode cL_acts 194 = .ok (.iload 5, 2) := by decide +kernel
theorem dL_acts_196 : decode cL_acts 196 = .ok (.iload 4, 2) := by decide +kernel
theorem dL_acts_198 : decode cL_acts 198 = .ok (.invokevirtual 104, 3) := by decide +kernel
theorem dL_acts_201 : decode cL_acts 201 = .ok (.iload 6, 2) := by decide +kernel
theorem dL_acts_203 : decode cL_acts 203 = .ok (.ifCond .eq 7, 3) := by decide +kernel
theorem dL_acts_206 : decode cL_acts 206 = .ok (.iconst (-1), 1) := by decide +kernel
theorem dL_acts_207 : decode cL_acts 207 = .ok (.goto 39, 3) := by decide +kernel
theorem dL_acts_210 : decode cL_acts 210 = .ok (.iload 9, 2) := by decide +kernel
theorem dL_acts_212 : decode cL_acts 212 = .ok (.aload_n 0, 1) := by decide +kernel
theorem dL_acts_213 : decode cL_acts 213 = .ok (.bipush 9, 2) := by decide +kernel
theorem dL_acts_215 : decode cL_acts 215 = .ok (.invokevirtual 13, 3) := by decide +kernel
theorem dL_acts_218 : decode cL_acts 218 = .ok (.if_icmp .lt 8, 3) := by decide +kernel
theorem dL_acts_221 : decode cL_acts 221 = .ok (.bipush (-3), 2) := by decide +kernel
theorem dL_acts_223 : decode cL_acts 223 = .ok (.goto 23, 3) := by decide +kernel
theorem dL_acts_226 : decode cL_acts 226 = .ok (.iload 8, 2) := by decide +kernel
theorem dL_acts_228 : decode cL_acts 228 = .ok (.aload_n 0, 1) := by decide +kernel
theorem dL_acts_229 : decode cL_acts 229 = .ok (.bipush 10, 2) := by decide +kernel
theorem dL_acts_231 : decode cL_acts 231 = .ok (.invokevirtual 13, 3) := by decide +kernel
theorem dL_acts_234 : decode cL_acts 234 = .ok (.if_icmp .lt 8, 3) := by decide +kernel
theorem dL_acts_237 : decode cL_acts 237 = .ok (.bipush (-4), 2) := by decide +kernel
theorem dL_acts_239 : decode cL_acts 239 = .ok (.goto 7, 3) := by decide +kernel
theorem dL_acts_242 : decode cL_acts 242 = .ok (.iload 7, 2) := by decide +kernel
theorem dL_acts_244 : decode cL_acts 244 = .ok (.iconst 1, 1) := by decide +kernel
theorem dL_acts_245 : decode cL_acts 245 = .ok (.iadd, 1) := by decide +kernel
theorem dL_acts_246 : decode cL_acts 246 = .ok (.if_icmp .ne 7, 3) := by decide +kernel
theorem dL_acts_249 : decode cL_acts 249 = .ok (.iconst 1, 1) := by decide +kernel
theorem dL_acts_250 : decode cL_acts 250 = .ok (.goto 4, 3) := by decide +kernel
theorem dL_acts_253 : decode cL_acts 253 = .ok (.iconst 0, 1) := by decide +kernel
