theorem dL_refusesStrings_0 : decode cL_refusesStrings 0 = .ok (.iconst 0, 1) := by decide +kernel
theorem dL_refusesStrings_1 : decode cL_refusesStrings 1 = .ok (.istore_n 1, 1) := by decide +kernel
theorem dL_refusesStrings_2 : decode cL_refusesStrings 2 = .ok (.iload_n 1, 1) := by decide +kernel
theorem dL_refusesStrings_3 : decode cL_refusesStrings 3 = .ok (.iconst 2, 1) := by decide +kernel
theorem dL_refusesStrings_4 : decode cL_refusesStrings 4 = .ok (.if_icmp .ge 313, 3) := by decide +kernel
theorem dL_refusesStrings_7 : decode cL_refusesStrings 7 = .ok (.iload_n 1, 1) := by decide +kernel
theorem dL_refusesStrings_8 : decode cL_refusesStrings 8 = .ok (.ifCond .ne 7, 3) := by decide +kernel
theorem dL_refusesStrings_11 : decode cL_refusesStrings 11 = .ok (.iconst 4, 1) := by decide +kernel
theorem dL_refusesStrings_12 : decode cL_refusesStrings 12 = .ok (.goto 4, 3) := by decide +kernel
theorem dL_refusesStrings_15 : decode cL_refusesStrings 15 = .ok (.iconst (-1), 1) := by decide +kernel
theorem dL_refusesStrings_16 : decode cL_refusesStrings 16 = .ok (.istore_n 2, 1) := by decide +kernel
theorem dL_refusesStrings_17 : decode cL_refusesStrings 17 = .ok (.aload_n 0, 1) := by decide +kernel
theorem dL_refusesStrings_18 : decode cL_refusesStrings 18 = .ok (.iload_n 2, 1) := by decide +kernel
theorem dL_refusesStrings_19 : decode cL_refusesStrings 19 = .ok (.sipush 1000, 3) := by decide +kernel
theorem dL_refusesStrings_22 : decode cL_refusesStrings 22 = .ok (.invokevirtual 39, 3) := by decide +kernel
theorem dL_refusesStrings_25 : decode cL_refusesStrings 25 = .ok (.iconst (-1), 1) := by decide +kernel
theorem dL_refusesStrings_26 : decode cL_refusesStrings 26 = .ok (.if_icmp .ne 148, 3) := by decide +kernel
theorem dL_refusesStrings_29 : decode cL_refusesStrings 29 = .ok (.aload_n 0, 1) := by decide +kernel
theorem dL_refusesStrings_30 : decode cL_refusesStrings 30 = .ok (.iload_n 2, 1) := by decide +kernel
theorem dL_refusesStrings_31 : decode cL_refusesStrings 31 = .ok (.iconst 0, 1) := by decide +kernel
theorem dL_refusesStrings_32 : decode cL_refusesStrings 32 = .ok (.invokevirtual 42, 3) := by decide +kernel
theorem dL_refusesStrings_35 : decode cL_refusesStrings 35 = .ok (.iconst (-1), 1) := by decide +kernel
theorem dL_refusesStrings_36 : decode cL_refusesStrings 36 = .ok (.if_icmp .ne 138, 3) := by decide +kernel
theorem dL_refusesStrings_39 : decode cL_refusesStrings 39 = .ok (.aload_n 0, 1) := by decide +kernel
theorem dL_refusesStrings_40 : decode cL_refusesStrings 40 = .ok (.iload_n 2, 1) := by decide +kernel
theorem dL_refusesStrings_41 : decode cL_refusesStrings 41 = .ok (.iconst 0, 1) := by decide +kernel
theorem dL_refusesStrings_42 : decode cL_refusesStrings 42 = .ok (.invokevirtual 45, 3) := by decide +kernel
theorem dL_refusesStrings_45 : decode cL_refusesStrings 45 = .ok (.iconst (-1), 1) := by decide +kernel
theorem dL_refusesStrings_46 : decode cL_refusesStrings 46 = .ok (.if_icmp .ne 128, 3) := by decide +kernel
theorem dL_refusesStrings_49 : decode cL_refusesStrings 49 = .ok (.aload_n 0, 1) := by decide +kernel
theorem dL_refusesStrings_50 : decode cL_refusesStrings 50 = .ok (.iload_n 2, 1) := by decide +kernel
theorem dL_refusesStrings_51 : decode cL_refusesStrings 51 = .ok (.sipush 2519, 3) := by decide +kernel
theorem dL_refusesStrings_54 : decode cL_refusesStrings 54 = .ok (.iconst 1, 1) := by decide +kernel
theorem dL_refusesStrings_55 : decode cL_refusesStrings 55 = .ok (.invokevirtual 48, 3) := by decide +kernel
theorem dL_refusesStrings_58 : decode cL_refusesStrings 58 = .ok (.iconst (-1), 1) := by decide +kernel
theorem dL_refusesStrings_59 : decode cL_refusesStrings 59 = .ok (.if_icmp .ne 115, 3) := by decide +kernel
theorem dL_refusesStrings_62 : decode cL_refusesStrings 62 = .ok (.aload_n 0, 1) := by decide +kernel
theorem dL_refusesStrings_63 : decode cL_refusesStrings 63 = .ok (.iload_n 2, 1) := by decide +kernel
theorem dL_refusesStrings_64 : decode cL_refusesStrings 64 = .ok (.invokevirtual 51, 3) := by decide +kernel
theorem dL_refusesStrings_67 : decode cL_refusesStrings 67 = .ok (.iconst (-1), 1) := by decide +kernel
theorem dL_refusesStrings_68 : decode cL_refusesStrings 68 = .ok (.if_icmp .ne 106, 3) := by decide +kernel
theorem dL_refusesStrings_71 : decode cL_refusesStrings 71 = .ok (.aload_n 0, 1) := by decide +kernel
theorem dL_refusesStrings_72 : decode cL_refusesStrings 72 = .ok (.iload_n 2, 1) := by decide +kernel
theorem dL_refusesStrings_73 : decode cL_refusesStrings 73 = .ok (.iconst 0, 1) := by decide +kernel
theorem dL_refusesStrings_74 : decode cL_refusesStrings 74 = .ok (.invokevirtual 29, 3) := by decide +kernel
theorem dL_refusesStrings_77 : decode cL_refusesStrings 77 = .ok (.iconst (-1), 1) := by decide +kernel
theorem dL_refusesStrings_78 : decode cL_refusesStrings 78 = .ok (.if_icmp .ne 96, 3) := by decide +kernel
theorem dL_refusesStrings_81 : decode cL_refusesStrings 81 = .ok (.aload_n 0, 1) := by decide +kernel
theorem dL_refusesStrings_82 : decode cL_refusesStrings 82 = .ok (.iload_n 2, 1) := by decide +kernel
theorem dL_refusesStrings_83 : decode cL_refusesStrings 83 = .ok (.iconst 1, 1) := by decide +kernel
theorem dL_refusesStrings_84 : decode cL_refusesStrings 84 = .ok (.iconst 0, 1) := by decide +kernel
theorem dL_refusesStrings_85 : decode cL_refusesStrings 85 = .ok (.invokevirtual 32, 3) := by decide +kernel
theorem dL_refusesStrings_88 : decode cL_refusesStrings 88 = .ok (.iconst (-1), 1) := by decide +kernel
theorem dL_refusesStrings_89 : decode cL_refusesStrings 89 = .ok (.if_icmp .ne 85, 3) := by decide +kernel
theorem dL_refusesStrings_92 : decode cL_refusesStrings 92 = .ok (.aload_n 0, 1) := by decide +kernel
theorem dL_refusesStrings_93 : decode cL_refusesStrings 93 = .ok (.iload_n 2, 1) := by decide +kernel
theorem dL_refusesStrings_94 : decode cL_refusesStrings 94 = .ok (.iconst 1, 1) := by decide +kernel
theorem dL_refusesStrings_95 : decode cL_refusesStrings 95 = .ok (.sipush 2519, 3) := by decide +kernel
theorem dL_refusesStrings_98 : decode cL_refusesStrings 98 = .ok (.invokevirtual 54, 3) := by decide +kernel
theorem dL_refusesStrings_101 : decode cL_refusesStrings 101 = .ok (.iconst (-1), 1) := by decide +kernel
theorem dL_refusesStrings_102 : decode cL_refusesStrings 102 = .ok (.if_icmp .ne 72, 3) := by decide +kernel
theorem dL_refusesStrings_105 : decode cL_refusesStrings 105 = .ok (.aload_n 0, 1) := by decide +kernel
theorem dL_refusesStrings_106 : decode cL_refusesStrings 106 = .ok (.iload_n 2, 1) := by decide +kernel
theorem dL_refusesStrings_107 : decode cL_refusesStrings 107 = .ok (.iconst 1, 1) := by decide +kernel
theorem dL_refusesStrings_108 : decode cL_refusesStrings 108 = .ok (.sipush 2519, 3) := by decide +kernel
theorem dL_refusesStrings_111 : decode cL_refusesStrings 111 = .ok (.invokevirtual 57, 3) := by decide +kernel
theorem dL_refusesStrings_114 : decode cL_refusesStrings 114 = .ok (.iconst (-1), 1) := by decide +kernel
theorem dL_refusesStrings_115 : decode cL_refusesStrings 115 = .ok (.if_icmp .ne 59, 3) := by decide +kernel
theorem dL_refusesStrings_118 : decode cL_refusesStrings 118 = .ok (.aload_n 0, 1) := by decide +kernel
theorem dL_refusesStrings_119 : decode cL_refusesStrings 119 = .ok (.iload_n 2, 1) := by decide +kernel
theorem dL_refusesStrings_120 : decode cL_refusesStrings 120 = .ok (.iconst 1, 1) := by decide +kernel
theorem dL_refusesStrings_121 : decode cL_refusesStrings 121 = .ok (.invokevirtual 60, 3) := by decide +kernel
theorem dL_refusesStrings_124 : decode cL_refusesStrings 124 = .ok (.iconst (-1), 1) := by decide +kernel
theorem dL_refusesStrings_125 : decode cL_refusesStrings 125 = .ok (.if_icmp .ne 49, 3) := by decide +kernel
theorem dL_refusesStrings_128 : decode cL_refusesStrings 128 = .ok (.aload_n 0, 1) := by decide +kernel
theorem dL_refusesStrings_129 : decode cL_refusesStrings 129 = .ok (.iload_n 2, 1) := by decide +kernel
theorem dL_refusesStrings_130 : decode cL_refusesStrings 130 = .ok (.iconst 1, 1) := by decide +kernel
theorem dL_refusesStrings_131 : decode cL_refusesStrings 131 = .ok (.iconst 0, 1) := by decide +kernel
theorem dL_refusesStrings_132 : decode cL_refusesStrings 132 = .ok (.iconst 1, 1) := by decide +kernel
theorem dL_refusesStrings_133 : decode cL_refusesStrings 133 = .ok (.invokevirtual 63, 3) := by decide +kernel
theorem dL_refusesStrings_136 : decode cL_refusesStrings 136 = .ok (.iconst (-1), 1) := by decide +kernel
theorem dL_refusesStrings_137 : decode cL_refusesStrings 137 = .ok (.if_icmp .ne 37, 3) := by decide +kernel
theorem dL_refusesStrings_140 : decode cL_refusesStrings 140 = .ok (.aload_n 0, 1) := by decide +kernel
theorem dL_refusesStrings_141 : decode cL_refusesStrings 141 = .ok (.iconst 0, 1) := by decide +kernel
theorem dL_refusesStrings_142 : decode cL_refusesStrings 142 = .ok (.iconst 1, 1) := by decide +kernel
theorem dL_refusesStrings_143 : decode cL_refusesStrings 143 = .ok (.iload_n 2, 1) := by decide +kernel
theorem dL_refusesStrings_144 : decode cL_refusesStrings 144 = .ok (.iconst 1, 1) := by decide +kernel
theorem dL_refusesStrings_145 : decode cL_refusesStrings 145 = .ok (.invokevirtual 63, 3) := by decide +kernel
theorem dL_refusesStrings_148 : decode cL_refusesStrings 148 = .ok (.iconst (-1), 1) := by decide +kernel
theorem dL_refusesStrings_149 : decode cL_refusesStrings 149 = .ok (.if_icmp .ne 25, 3) := by decide +kernel
theorem dL_refusesStrings_152 : decode cL_refusesStrings 152 = .ok (.aload_n 0, 1) := by decide +kernel
theorem dL_refusesStrings_153 : decode cL_refusesStrings 153 = .ok (.iload_n 2, 1) := by decide +kernel
theorem dL_refusesStrings_154 : decode cL_refusesStrings 154 = .ok (.iconst 0, 1) := by decide +kernel
theorem dL_refusesStrings_155 : decode cL_refusesStrings 155 = .ok (.iconst 0, 1) := by decide +kernel
theorem dL_refusesStrings_156 : decode cL_refusesStrings 156 = .ok (.invokevirtual 67, 3) := by decide +kernel
theorem dL_refusesStrings_159 : decode cL_refusesStrings 159 = .ok (.iconst (-1), 1) := by decide +kernel
theorem dL_refusesStrings_160 : decode cL_refusesStrings 160 = .ok (.if_icmp .ne 14, 3) := by decide +kernel
theorem dL_refusesStrings_163 : decode cL_refusesStrings 163 = .ok (.aload_n 0, 1) := by decide +kernel
theorem dL_refusesStrings_164 : decode cL_refusesStrings 164 = .ok (.iconst 0, 1) := by decide +kernel
theorem dL_refusesStrings_165 : decode cL_refusesStrings 165 = .ok (.iload_n 2, 1) := by decide +kernel
theorem dL_refusesStrings_166 : decode cL_refusesStrings 166 = .ok (.iconst 0, 1) := by decide +kernel
theorem dL_refusesStrings_167 : decode cL_refusesStrings 167 = .ok (.invokevirtual 67, 3) := by decide +kernel
theorem dL_refusesStrings_170 : decode cL_refusesStrings 170 = .ok (.iconst (-1), 1) := by decide +kernel
theorem dL_refusesStrings_171 : decode cL_refusesStrings 171 = .ok (.if_icmp .eq 5, 3) := by decide +kernel
theorem dL_refusesStrings_174 : decode cL_refusesStrings 174 = .ok (.iconst 0, 1) := by decide +kernel
theorem dL_refusesStrings_175 : decode cL_refusesStrings 175 = .ok (.ireturn, 1) := by decide +kernel
theorem dL_refusesStrings_176 : decode cL_refusesStrings 176 = .ok (.iload_n 1, 1) := by decide +kernel
theorem dL_refusesStrings_177 : decode cL_refusesStrings 177 = .ok (.ifCond .ne 8, 3) := by decide +kernel
theorem dL_refusesStrings_180 : decode cL_refusesStrings 180 = .ok (.bipush 13, 2) := by decide +kernel
theorem dL_refusesStrings_182 : decode cL_refusesStrings 182 = .ok (.goto 4, 3) := by decide +kernel
theorem dL_refusesStrings_185 : decode cL_refusesStrings 185 = .ok (.iconst 0, 1) := by decide +kernel
theorem dL_refusesStrings_186 : decode cL_refusesStrings 186 = .ok (.istore_n 3, 1) := by decide +kernel
theorem dL_refusesStrings_187 : decode cL_refusesStrings 187 = .ok (.aload_n 0, 1) := by decide +kernel
theorem dL_refusesStrings_188 : decode cL_refusesStrings 188 = .ok (.iconst 0, 1) := by decide +kernel
theorem dL_refusesStrings_189 : decode cL_refusesStrings 189 = .ok (.iload_n 3, 1) := by decide +kernel
theorem dL_refusesStrings_190 : decode cL_refusesStrings 190 = .ok (.iconst 0, 1) := by decide +kernel
theorem dL_refusesStrings_191 : decode cL_refusesStrings 191 = .ok (.invokevirtual 32, 3) := by decide +kernel
theorem dL_refusesStrings_194 : decode cL_refusesStrings 194 = .ok (.iconst (-1), 1) := by decide +kernel
theorem dL_refusesStrings_195 : decode cL_refusesStrings 195 = .ok (.if_icmp .ne 63, 3) := by decide +kernel
theorem dL_refusesStrings_198 : decode cL_refusesStrings 198 = .ok (.aload_n 0, 1) := by decide +kernel
theorem dL_refusesStrings_199 : decode cL_refusesStrings 199 = .ok (.iconst 0, 1) := by decide +kernel
theorem dL_refusesStrings_200 : decode cL_refusesStrings 200 = .ok (.iload_n 3, 1) := by decide +kernel
theorem dL_refusesStrings_201 : decode cL_refusesStrings 201 = .ok (.sipush 2519, 3) := by decide +kernel
theorem dL_refusesStrings_204 : decode cL_refusesStrings 204 = .ok (.invokevirtual 54, 3) := by decide +kernel
theorem dL_refusesStrings_207 : decode cL_refusesStrings 207 = .ok (.iconst (-1), 1) := by decide +kernel
theorem dL_refusesStrings_208 : decode cL_refusesStrings 208 = .ok (.if_icmp .ne 50, 3) := by decide +kernel
theorem dL_refusesStrings_211 : decode cL_refusesStrings 211 = .ok (.aload_n 0, 1) := by decide +kernel
theorem dL_refusesStrings_212 : decode cL_refusesStrings 212 = .ok (.iconst 0, 1) := by decide +kernel
theorem dL_refusesStrings_213 : decode cL_refusesStrings 213 = .ok (.iload_n 3, 1) := by decide +kernel
theorem dL_refusesStrings_214 : decode cL_refusesStrings 214 = .ok (.sipush 2519, 3) := by decide +kernel
theorem dL_refusesStrings_217 : decode cL_refusesStrings 217 = .ok (.invokevirtual 57, 3) := by decide +kernel
theorem dL_refusesStrings_220 : decode cL_refusesStrings 220 = .ok (.iconst (-1), 1) := by decide +kernel
theorem dL_refusesStrings_221 : decode cL_refusesStrings 221 = .ok (.if_icmp .ne 37, 3) := by decide +kernel
theorem dL_refusesStrings_224 : decode cL_refusesStrings 224 = .ok (.aload_n 0, 1) := by decide +kernel
theorem dL_refusesStrings_225 : decode cL_refusesStrings 225 = .ok (.iconst 0, 1) := by decide +kernel
theorem dL_refusesStrings_226 : decode cL_refusesStrings 226 = .ok (.iload_n 3, 1) := by decide +kernel
theorem dL_refusesStrings_227 : decode cL_refusesStrings 227 = .ok (.invokevirtual 60, 3) := by decide +kernel
theorem dL_refusesStrings_230 : decode cL_refusesStrings 230 = .ok (.iconst (-1), 1) := by decide +kernel
theorem dL_refusesStrings_231 : decode cL_refusesStrings 231 = .ok (.if_icmp .ne 27, 3) := by decide +kernel
theorem dL_refusesStrings_234 : decode cL_refusesStrings 234 = .ok (.aload_n 0, 1) := by decide +kernel
theorem dL_refusesStrings_235 : decode cL_refusesStrings 235 = .ok (.iconst 0, 1) := by decide +kernel
theorem dL_refusesStrings_236 : decode cL_refusesStrings 236 = .ok (.iload_n 3, 1) := by decide +kernel
theorem dL_refusesStrings_237 : decode cL_refusesStrings 237 = .ok (.iconst 1, 1) := by decide +kernel
