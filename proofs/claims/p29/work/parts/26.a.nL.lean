theorem dL_lot_0 : decode cL_lot 0 = .ok (.iload_n 1, 1) := by decide +kernel
theorem dL_lot_1 : decode cL_lot 1 = .ok (.aload_n 0, 1) := by decide +kernel
theorem dL_lot_2 : decode cL_lot 2 = .ok (.arraylength, 1) := by decide +kernel
theorem dL_lot_3 : decode cL_lot 3 = .ok (.if_icmp .ge 9, 3) := by decide +kernel
theorem dL_lot_6 : decode cL_lot 6 = .ok (.aload_n 0, 1) := by decide +kernel
theorem dL_lot_7 : decode cL_lot 7 = .ok (.iload_n 1, 1) := by decide +kernel
theorem dL_lot_8 : decode cL_lot 8 = .ok (.iaload, 1) := by decide +kernel
theorem dL_lot_9 : decode cL_lot 9 = .ok (.goto 15, 3) := by decide +kernel
theorem dL_lot_12 : decode cL_lot 12 = .ok (.ldc 7, 2) := by decide +kernel
theorem dL_lot_14 : decode cL_lot 14 = .ok (.iload_n 1, 1) := by decide +kernel
theorem dL_lot_15 : decode cL_lot 15 = .ok (.sipush 4073, 3) := by decide +kernel
theorem dL_lot_18 : decode cL_lot 18 = .ok (.iadd, 1) := by decide +kernel
theorem dL_lot_19 : decode cL_lot 19 = .ok (.imul, 1) := by decide +kernel
theorem dL_lot_20 : decode cL_lot 20 = .ok (.sipush 3847, 3) := by decide +kernel
theorem dL_lot_23 : decode cL_lot 23 = .ok (.iadd, 1) := by decide +kernel
theorem dL_lot_24 : decode cL_lot 24 = .ok (.ireturn, 1) := by decide +kernel
theorem dL_low_0 : decode cL_low 0 = .ok (.iload_n 0, 1) := by decide +kernel
theorem dL_low_1 : decode cL_low 1 = .ok (.ldc 8, 2) := by decide +kernel
theorem dL_low_3 : decode cL_low 3 = .ok (.iand, 1) := by decide +kernel
theorem dL_low_4 : decode cL_low 4 = .ok (.iload_n 1, 1) := by decide +kernel
theorem dL_low_5 : decode cL_low 5 = .ok (.irem, 1) := by decide +kernel
theorem dL_low_6 : decode cL_low 6 = .ok (.ireturn, 1) := by decide +kernel
theorem dL_look_0 : decode cL_look 0 = .ok (.ldc2_w 9, 3) := by decide +kernel
theorem dL_look_3 : decode cL_look 3 = .ok (.lstore_n 1, 1) := by decide +kernel
theorem dL_look_4 : decode cL_look 4 = .ok (.iconst 0, 1) := by decide +kernel
theorem dL_look_5 : decode cL_look 5 = .ok (.istore_n 3, 1) := by decide +kernel
theorem dL_look_6 : decode cL_look 6 = .ok (.iload_n 3, 1) := by decide +kernel
theorem dL_look_7 : decode cL_look 7 = .ok (.bipush 11, 2) := by decide +kernel
theorem dL_look_9 : decode cL_look 9 = .ok (.if_icmp .ge 22, 3) := by decide +kernel
theorem dL_look_12 : decode cL_look 12 = .ok (.ldc2_w 11, 3) := by decide +kernel
theorem dL_look_15 : decode cL_look 15 = .ok (.lload_n 1, 1) := by decide +kernel
theorem dL_look_16 : decode cL_look 16 = .ok (.lmul, 1) := by decide +kernel
theorem dL_look_17 : decode cL_look 17 = .ok (.aload_n 0, 1) := by decide +kernel
theorem dL_look_18 : decode cL_look 18 = .ok (.iload_n 3, 1) := by decide +kernel
theorem dL_look_19 : decode cL_look 19 = .ok (.invokevirtual 13, 3) := by decide +kernel
theorem dL_look_22 : decode cL_look 22 = .ok (.i2l, 1) := by decide +kernel
theorem dL_look_23 : decode cL_look 23 = .ok (.ladd, 1) := by decide +kernel
theorem dL_look_24 : decode cL_look 24 = .ok (.lstore_n 1, 1) := by decide +kernel
theorem dL_look_25 : decode cL_look 25 = .ok (.iinc 3 1, 3) := by decide +kernel
theorem dL_look_28 : decode cL_look 28 = .ok (.goto (-22), 3) := by decide +kernel
theorem dL_look_31 : decode cL_look 31 = .ok (.iconst 0, 1) := by decide +kernel
theorem dL_look_32 : decode cL_look 32 = .ok (.istore_n 3, 1) := by decide +kernel
theorem dL_look_33 : decode cL_look 33 = .ok (.iload_n 3, 1) := by decide +kernel
theorem dL_look_34 : decode cL_look 34 = .ok (.aload_n 0, 1) := by decide +kernel
theorem dL_look_35 : decode cL_look 35 = .ok (.iconst 0, 1) := by decide +kernel
theorem dL_look_36 : decode cL_look 36 = .ok (.invokevirtual 13, 3) := by decide +kernel
theorem dL_look_39 : decode cL_look 39 = .ok (.if_icmp .ge 78, 3) := by decide +kernel
theorem dL_look_42 : decode cL_look 42 = .ok (.ldc2_w 11, 3) := by decide +kernel
theorem dL_look_45 : decode cL_look 45 = .ok (.ldc2_w 11, 3) := by decide +kernel
theorem dL_look_48 : decode cL_look 48 = .ok (.ldc2_w 11, 3) := by decide +kernel
theorem dL_look_51 : decode cL_look 51 = .ok (.lload_n 1, 1) := by decide +kernel
theorem dL_look_52 : decode cL_look 52 = .ok (.lmul, 1) := by decide +kernel
theorem dL_look_53 : decode cL_look 53 = .ok (.aload_n 0, 1) := by decide +kernel
theorem dL_look_54 : decode cL_look 54 = .ok (.iload_n 3, 1) := by decide +kernel
theorem dL_look_55 : decode cL_look 55 = .ok (.iconst 0, 1) := by decide +kernel
theorem dL_look_56 : decode cL_look 56 = .ok (.invokevirtual 19, 3) := by decide +kernel
theorem dL_look_59 : decode cL_look 59 = .ok (.i2l, 1) := by decide +kernel
theorem dL_look_60 : decode cL_look 60 = .ok (.ladd, 1) := by decide +kernel
theorem dL_look_61 : decode cL_look 61 = .ok (.lmul, 1) := by decide +kernel
theorem dL_look_62 : decode cL_look 62 = .ok (.aload_n 0, 1) := by decide +kernel
theorem dL_look_63 : decode cL_look 63 = .ok (.iload_n 3, 1) := by decide +kernel
theorem dL_look_64 : decode cL_look 64 = .ok (.iconst 1, 1) := by decide +kernel
theorem dL_look_65 : decode cL_look 65 = .ok (.invokevirtual 19, 3) := by decide +kernel
theorem dL_look_68 : decode cL_look 68 = .ok (.i2l, 1) := by decide +kernel
theorem dL_look_69 : decode cL_look 69 = .ok (.ladd, 1) := by decide +kernel
theorem dL_look_70 : decode cL_look 70 = .ok (.lmul, 1) := by decide +kernel
theorem dL_look_71 : decode cL_look 71 = .ok (.aload_n 0, 1) := by decide +kernel
theorem dL_look_72 : decode cL_look 72 = .ok (.iload_n 3, 1) := by decide +kernel
theorem dL_look_73 : decode cL_look 73 = .ok (.iconst 4, 1) := by decide +kernel
theorem dL_look_74 : decode cL_look 74 = .ok (.invokevirtual 19, 3) := by decide +kernel
theorem dL_look_77 : decode cL_look 77 = .ok (.i2l, 1) := by decide +kernel
theorem dL_look_78 : decode cL_look 78 = .ok (.ladd, 1) := by decide +kernel
theorem dL_look_79 : decode cL_look 79 = .ok (.lstore_n 1, 1) := by decide +kernel
theorem dL_look_80 : decode cL_look 80 = .ok (.iconst 0, 1) := by decide +kernel
theorem dL_look_81 : decode cL_look 81 = .ok (.istore 4, 2) := by decide +kernel
theorem dL_look_83 : decode cL_look 83 = .ok (.iload 4, 2) := by decide +kernel
theorem dL_look_85 : decode cL_look 85 = .ok (.bipush 6, 2) := by decide +kernel
theorem dL_look_87 : decode cL_look 87 = .ok (.if_icmp .ge 24, 3) := by decide +kernel
theorem dL_look_90 : decode cL_look 90 = .ok (.ldc2_w 11, 3) := by decide +kernel
theorem dL_look_93 : decode cL_look 93 = .ok (.lload_n 1, 1) := by decide +kernel
theorem dL_look_94 : decode cL_look 94 = .ok (.lmul, 1) := by decide +kernel
theorem dL_look_95 : decode cL_look 95 = .ok (.aload_n 0, 1) := by decide +kernel
theorem dL_look_96 : decode cL_look 96 = .ok (.iload 4, 2) := by decide +kernel
theorem dL_look_98 : decode cL_look 98 = .ok (.iload_n 3, 1) := by decide +kernel
theorem dL_look_99 : decode cL_look 99 = .ok (.invokevirtual 23, 3) := by decide +kernel
theorem dL_look_102 : decode cL_look 102 = .ok (.i2l, 1) := by decide +kernel
theorem dL_look_103 : decode cL_look 103 = .ok (.ladd, 1) := by decide +kernel
theorem dL_look_104 : decode cL_look 104 = .ok (.lstore_n 1, 1) := by decide +kernel
theorem dL_look_105 : decode cL_look 105 = .ok (.iinc 4 1, 3) := by decide +kernel
theorem dL_look_108 : decode cL_look 108 = .ok (.goto (-25), 3) := by decide +kernel
theorem dL_look_111 : decode cL_look 111 = .ok (.iinc 3 1, 3) := by decide +kernel
theorem dL_look_114 : decode cL_look 114 = .ok (.goto (-81), 3) := by decide +kernel
theorem dL_look_117 : decode cL_look 117 = .ok (.iconst 0, 1) := by decide +kernel
theorem dL_look_118 : decode cL_look 118 = .ok (.istore_n 3, 1) := by decide +kernel
theorem dL_look_119 : decode cL_look 119 = .ok (.iload_n 3, 1) := by decide +kernel
theorem dL_look_120 : decode cL_look 120 = .ok (.aload_n 0, 1) := by decide +kernel
theorem dL_look_121 : decode cL_look 121 = .ok (.iconst 2, 1) := by decide +kernel
theorem dL_look_122 : decode cL_look 122 = .ok (.invokevirtual 13, 3) := by decide +kernel
theorem dL_look_125 : decode cL_look 125 = .ok (.if_icmp .ge 66, 3) := by decide +kernel
theorem dL_look_128 : decode cL_look 128 = .ok (.ldc2_w 11, 3) := by decide +kernel
theorem dL_look_131 : decode cL_look 131 = .ok (.ldc2_w 11, 3) := by decide +kernel
theorem dL_look_134 : decode cL_look 134 = .ok (.lload_n 1, 1) := by decide +kernel
theorem dL_look_135 : decode cL_look 135 = .ok (.lmul, 1) := by decide +kernel
theorem dL_look_136 : decode cL_look 136 = .ok (.aload_n 0, 1) := by decide +kernel
theorem dL_look_137 : decode cL_look 137 = .ok (.iload_n 3, 1) := by decide +kernel
theorem dL_look_138 : decode cL_look 138 = .ok (.iconst 2, 1) := by decide +kernel
theorem dL_look_139 : decode cL_look 139 = .ok (.invokevirtual 26, 3) := by decide +kernel
theorem dL_look_142 : decode cL_look 142 = .ok (.i2l, 1) := by decide +kernel
theorem dL_look_143 : decode cL_look 143 = .ok (.ladd, 1) := by decide +kernel
theorem dL_look_144 : decode cL_look 144 = .ok (.lmul, 1) := by decide +kernel
theorem dL_look_145 : decode cL_look 145 = .ok (.aload_n 0, 1) := by decide +kernel
theorem dL_look_146 : decode cL_look 146 = .ok (.iload_n 3, 1) := by decide +kernel
theorem dL_look_147 : decode cL_look 147 = .ok (.iconst 5, 1) := by decide +kernel
theorem dL_look_148 : decode cL_look 148 = .ok (.invokevirtual 26, 3) := by decide +kernel
theorem dL_look_151 : decode cL_look 151 = .ok (.i2l, 1) := by decide +kernel
theorem dL_look_152 : decode cL_look 152 = .ok (.ladd, 1) := by decide +kernel
theorem dL_look_153 : decode cL_look 153 = .ok (.lstore_n 1, 1) := by decide +kernel
theorem dL_look_154 : decode cL_look 154 = .ok (.iconst 0, 1) := by decide +kernel
theorem dL_look_155 : decode cL_look 155 = .ok (.istore 4, 2) := by decide +kernel
theorem dL_look_157 : decode cL_look 157 = .ok (.iload 4, 2) := by decide +kernel
theorem dL_look_159 : decode cL_look 159 = .ok (.bipush 10, 2) := by decide +kernel
theorem dL_look_161 : decode cL_look 161 = .ok (.if_icmp .ge 24, 3) := by decide +kernel
theorem dL_look_164 : decode cL_look 164 = .ok (.ldc2_w 11, 3) := by decide +kernel
theorem dL_look_167 : decode cL_look 167 = .ok (.lload_n 1, 1) := by decide +kernel
theorem dL_look_168 : decode cL_look 168 = .ok (.lmul, 1) := by decide +kernel
theorem dL_look_169 : decode cL_look 169 = .ok (.aload_n 0, 1) := by decide +kernel
theorem dL_look_170 : decode cL_look 170 = .ok (.iload_n 3, 1) := by decide +kernel
theorem dL_look_171 : decode cL_look 171 = .ok (.iload 4, 2) := by decide +kernel
theorem dL_look_173 : decode cL_look 173 = .ok (.invokevirtual 29, 3) := by decide +kernel
theorem dL_look_176 : decode cL_look 176 = .ok (.i2l, 1) := by decide +kernel
theorem dL_look_177 : decode cL_look 177 = .ok (.ladd, 1) := by decide +kernel
theorem dL_look_178 : decode cL_look 178 = .ok (.lstore_n 1, 1) := by decide +kernel
theorem dL_look_179 : decode cL_look 179 = .ok (.iinc 4 1, 3) := by decide +kernel
theorem dL_look_182 : decode cL_look 182 = .ok (.goto (-25), 3) := by decide +kernel
theorem dL_look_185 : decode cL_look 185 = .ok (.iinc 3 1, 3) := by decide +kernel
theorem dL_look_188 : decode cL_look 188 = .ok (.goto (-69), 3) := by decide +kernel
theorem dL_look_191 : decode cL_look 191 = .ok (.lload_n 1, 1) := by decide +kernel
theorem dL_look_192 : decode cL_look 192 = .ok (.lreturn, 1) := by decide +kernel
theorem dL_abs_0 : decode cL_abs 0 = .ok (.iload_n 0, 1) := by decide +kernel
theorem dL_abs_1 : decode cL_abs 1 = .ok (.ifCond .ge 8, 3) := by decide +kernel
theorem dL_abs_4 : decode cL_abs 4 = .ok (.iload_n 0, 1) := by decide +kernel
theorem dL_abs_5 : decode cL_abs 5 = .ok (.ineg, 1) := by decide +kernel
theorem dL_abs_6 : decode cL_abs 6 = .ok (.goto 4, 3) := by decide +kernel
theorem dL_abs_9 : decode cL_abs 9 = .ok (.iload_n 0, 1) := by decide +kernel
theorem dL_abs_10 : decode cL_abs 10 = .ok (.ireturn, 1) := by decide +kernel
theorem dL_far_0 : decode cL_far 0 = .ok (.aload_n 0, 1) := by decide +kernel
theorem dL_far_1 : decode cL_far 1 = .ok (.iload_n 1, 1) := by decide +kernel
theorem dL_far_2 : decode cL_far 2 = .ok (.iconst 0, 1) := by decide +kernel
theorem dL_far_3 : decode cL_far 3 = .ok (.invokevirtual 19, 3) := by decide +kernel
theorem dL_far_6 : decode cL_far 6 = .ok (.aload_n 0, 1) := by decide +kernel
theorem dL_far_7 : decode cL_far 7 = .ok (.iload_n 2, 1) := by decide +kernel
theorem dL_far_8 : decode cL_far 8 = .ok (.iconst 0, 1) := by decide +kernel
theorem dL_far_9 : decode cL_far 9 = .ok (.invokevirtual 19, 3) := by decide +kernel
theorem dL_far_12 : decode cL_far 12 = .ok (.isub, 1) := by decide +kernel
theorem dL_far_13 : decode cL_far 13 = .ok (.invokestatic 32, 3) := by decide +kernel
theorem dL_far_16 : decode cL_far 16 = .ok (.aload_n 0, 1) := by decide +kernel
theorem dL_far_17 : decode cL_far 17 = .ok (.iload_n 1, 1) := by decide +kernel
theorem dL_far_18 : decode cL_far 18 = .ok (.iconst 1, 1) := by decide +kernel
theorem dL_far_19 : decode cL_far 19 = .ok (.invokevirtual 19, 3) := by decide +kernel
theorem dL_far_22 : decode cL_far 22 = .ok (.aload_n 0, 1) := by decide +kernel
theorem dL_far_23 : decode cL_far 23 = .ok (.iload_n 2, 1) := by decide +kernel
theorem dL_far_24 : decode cL_far 24 = .ok (.iconst 1, 1) := by decide +kernel
theorem dL_far_25 : decode cL_far 25 = .ok (.invokevirtual 19, 3) := by decide +kernel
theorem dL_far_28 : decode cL_far 28 = .ok (.isub, 1) := by decide +kernel
theorem dL_far_29 : decode cL_far 29 = .ok (.invokestatic 32, 3) := by decide +kernel
theorem dL_far_32 : decode cL_far 32 = .ok (.iadd, 1) := by decide +kernel
theorem dL_far_33 : decode cL_far 33 = .ok (.ireturn, 1) := by decide +kernel
theorem dL_holds_0 : decode cL_holds 0 = .ok (.aload_n 0, 1) := by decide +kernel
theorem dL_holds_1 : decode cL_holds 1 = .ok (.iconst 0, 1) := by decide +kernel
theorem dL_holds_2 : decode cL_holds 2 = .ok (.invokevirtual 13, 3) := by decide +kernel
