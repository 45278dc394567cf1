theorem dL_refused_0 : decode cL_refused 0 = .ok (.aload_n 0, 1) := by decide +kernel
theorem dL_refused_1 : decode cL_refused 1 = .ok (.invokestatic 71, 3) := by decide +kernel
theorem dL_refused_4 : decode cL_refused 4 = .ok (.aload_n 0, 1) := by decide +kernel
theorem dL_refused_5 : decode cL_refused 5 = .ok (.bipush 12, 2) := by decide +kernel
theorem dL_refused_7 : decode cL_refused 7 = .ok (.invokevirtual 13, 3) := by decide +kernel
theorem dL_refused_10 : decode cL_refused 10 = .ok (.i2l, 1) := by decide +kernel
theorem dL_refused_11 : decode cL_refused 11 = .ok (.invokestatic 19, 3) := by decide +kernel
theorem dL_refused_14 : decode cL_refused 14 = .ok (.aload_n 0, 1) := by decide +kernel
theorem dL_refused_15 : decode cL_refused 15 = .ok (.bipush 13, 2) := by decide +kernel
theorem dL_refused_17 : decode cL_refused 17 = .ok (.invokevirtual 13, 3) := by decide +kernel
theorem dL_refused_20 : decode cL_refused 20 = .ok (.i2l, 1) := by decide +kernel
theorem dL_refused_21 : decode cL_refused 21 = .ok (.invokestatic 19, 3) := by decide +kernel
theorem dL_refused_24 : decode cL_refused 24 = .ok (.lstore_n 1, 1) := by decide +kernel
theorem dL_refused_25 : decode cL_refused 25 = .ok (.aload_n 0, 1) := by decide +kernel
theorem dL_refused_26 : decode cL_refused 26 = .ok (.iconst 0, 1) := by decide +kernel
theorem dL_refused_27 : decode cL_refused 27 = .ok (.invokevirtual 13, 3) := by decide +kernel
theorem dL_refused_30 : decode cL_refused 30 = .ok (.istore_n 3, 1) := by decide +kernel
theorem dL_refused_31 : decode cL_refused 31 = .ok (.aload_n 0, 1) := by decide +kernel
theorem dL_refused_32 : decode cL_refused 32 = .ok (.invokestatic 75, 3) := by decide +kernel
theorem dL_refused_35 : decode cL_refused 35 = .ok (.ifCond .eq 176, 3) := by decide +kernel
theorem dL_refused_38 : decode cL_refused 38 = .ok (.aload_n 0, 1) := by decide +kernel
theorem dL_refused_39 : decode cL_refused 39 = .ok (.iconst 0, 1) := by decide +kernel
theorem dL_refused_40 : decode cL_refused 40 = .ok (.iconst 0, 1) := by decide +kernel
theorem dL_refused_41 : decode cL_refused 41 = .ok (.invokevirtual 79, 3) := by decide +kernel
theorem dL_refused_44 : decode cL_refused 44 = .ok (.iconst (-1), 1) := by decide +kernel
theorem dL_refused_45 : decode cL_refused 45 = .ok (.if_icmp .ne 166, 3) := by decide +kernel
theorem dL_refused_48 : decode cL_refused 48 = .ok (.aload_n 0, 1) := by decide +kernel
theorem dL_refused_49 : decode cL_refused 49 = .ok (.sipush 2401, 3) := by decide +kernel
theorem dL_refused_52 : decode cL_refused 52 = .ok (.iconst 0, 1) := by decide +kernel
theorem dL_refused_53 : decode cL_refused 53 = .ok (.invokevirtual 79, 3) := by decide +kernel
theorem dL_refused_56 : decode cL_refused 56 = .ok (.iconst (-1), 1) := by decide +kernel
theorem dL_refused_57 : decode cL_refused 57 = .ok (.if_icmp .ne 154, 3) := by decide +kernel
theorem dL_refused_60 : decode cL_refused 60 = .ok (.aload_n 0, 1) := by decide +kernel
theorem dL_refused_61 : decode cL_refused 61 = .ok (.iconst 1, 1) := by decide +kernel
theorem dL_refused_62 : decode cL_refused 62 = .ok (.iconst (-1), 1) := by decide +kernel
theorem dL_refused_63 : decode cL_refused 63 = .ok (.invokevirtual 79, 3) := by decide +kernel
theorem dL_refused_66 : decode cL_refused 66 = .ok (.iconst (-1), 1) := by decide +kernel
theorem dL_refused_67 : decode cL_refused 67 = .ok (.if_icmp .ne 144, 3) := by decide +kernel
theorem dL_refused_70 : decode cL_refused 70 = .ok (.aload_n 0, 1) := by decide +kernel
theorem dL_refused_71 : decode cL_refused 71 = .ok (.iconst 1, 1) := by decide +kernel
theorem dL_refused_72 : decode cL_refused 72 = .ok (.sipush 2001, 3) := by decide +kernel
theorem dL_refused_75 : decode cL_refused 75 = .ok (.invokevirtual 79, 3) := by decide +kernel
theorem dL_refused_78 : decode cL_refused 78 = .ok (.iconst (-1), 1) := by decide +kernel
theorem dL_refused_79 : decode cL_refused 79 = .ok (.if_icmp .ne 132, 3) := by decide +kernel
theorem dL_refused_82 : decode cL_refused 82 = .ok (.aload_n 0, 1) := by decide +kernel
theorem dL_refused_83 : decode cL_refused 83 = .ok (.iconst 0, 1) := by decide +kernel
theorem dL_refused_84 : decode cL_refused 84 = .ok (.iload_n 3, 1) := by decide +kernel
theorem dL_refused_85 : decode cL_refused 85 = .ok (.iconst 1, 1) := by decide +kernel
theorem dL_refused_86 : decode cL_refused 86 = .ok (.iadd, 1) := by decide +kernel
theorem dL_refused_87 : decode cL_refused 87 = .ok (.invokevirtual 42, 3) := by decide +kernel
theorem dL_refused_90 : decode cL_refused 90 = .ok (.iconst (-1), 1) := by decide +kernel
theorem dL_refused_91 : decode cL_refused 91 = .ok (.if_icmp .ne 120, 3) := by decide +kernel
theorem dL_refused_94 : decode cL_refused 94 = .ok (.aload_n 0, 1) := by decide +kernel
theorem dL_refused_95 : decode cL_refused 95 = .ok (.iconst 0, 1) := by decide +kernel
theorem dL_refused_96 : decode cL_refused 96 = .ok (.iconst (-1), 1) := by decide +kernel
theorem dL_refused_97 : decode cL_refused 97 = .ok (.invokevirtual 42, 3) := by decide +kernel
theorem dL_refused_100 : decode cL_refused 100 = .ok (.iconst (-1), 1) := by decide +kernel
theorem dL_refused_101 : decode cL_refused 101 = .ok (.if_icmp .ne 110, 3) := by decide +kernel
theorem dL_refused_104 : decode cL_refused 104 = .ok (.aload_n 0, 1) := by decide +kernel
theorem dL_refused_105 : decode cL_refused 105 = .ok (.iconst (-1), 1) := by decide +kernel
theorem dL_refused_106 : decode cL_refused 106 = .ok (.iconst 1, 1) := by decide +kernel
theorem dL_refused_107 : decode cL_refused 107 = .ok (.invokevirtual 82, 3) := by decide +kernel
theorem dL_refused_110 : decode cL_refused 110 = .ok (.iconst (-1), 1) := by decide +kernel
theorem dL_refused_111 : decode cL_refused 111 = .ok (.if_icmp .ne 100, 3) := by decide +kernel
theorem dL_refused_114 : decode cL_refused 114 = .ok (.aload_n 0, 1) := by decide +kernel
theorem dL_refused_115 : decode cL_refused 115 = .ok (.iconst 5, 1) := by decide +kernel
theorem dL_refused_116 : decode cL_refused 116 = .ok (.iconst 1, 1) := by decide +kernel
theorem dL_refused_117 : decode cL_refused 117 = .ok (.invokevirtual 82, 3) := by decide +kernel
theorem dL_refused_120 : decode cL_refused 120 = .ok (.iconst (-1), 1) := by decide +kernel
theorem dL_refused_121 : decode cL_refused 121 = .ok (.if_icmp .ne 90, 3) := by decide +kernel
theorem dL_refused_124 : decode cL_refused 124 = .ok (.aload_n 0, 1) := by decide +kernel
theorem dL_refused_125 : decode cL_refused 125 = .ok (.iconst 0, 1) := by decide +kernel
theorem dL_refused_126 : decode cL_refused 126 = .ok (.sipush 1001, 3) := by decide +kernel
theorem dL_refused_129 : decode cL_refused 129 = .ok (.invokevirtual 82, 3) := by decide +kernel
theorem dL_refused_132 : decode cL_refused 132 = .ok (.iconst (-1), 1) := by decide +kernel
theorem dL_refused_133 : decode cL_refused 133 = .ok (.if_icmp .ne 78, 3) := by decide +kernel
theorem dL_refused_136 : decode cL_refused 136 = .ok (.aload_n 0, 1) := by decide +kernel
theorem dL_refused_137 : decode cL_refused 137 = .ok (.iconst 0, 1) := by decide +kernel
theorem dL_refused_138 : decode cL_refused 138 = .ok (.iconst (-1), 1) := by decide +kernel
theorem dL_refused_139 : decode cL_refused 139 = .ok (.invokevirtual 82, 3) := by decide +kernel
theorem dL_refused_142 : decode cL_refused 142 = .ok (.iconst (-1), 1) := by decide +kernel
theorem dL_refused_143 : decode cL_refused 143 = .ok (.if_icmp .ne 68, 3) := by decide +kernel
theorem dL_refused_146 : decode cL_refused 146 = .ok (.aload_n 0, 1) := by decide +kernel
theorem dL_refused_147 : decode cL_refused 147 = .ok (.iconst 1, 1) := by decide +kernel
theorem dL_refused_148 : decode cL_refused 148 = .ok (.bipush 101, 2) := by decide +kernel
theorem dL_refused_150 : decode cL_refused 150 = .ok (.invokevirtual 82, 3) := by decide +kernel
theorem dL_refused_153 : decode cL_refused 153 = .ok (.iconst (-1), 1) := by decide +kernel
theorem dL_refused_154 : decode cL_refused 154 = .ok (.if_icmp .ne 57, 3) := by decide +kernel
theorem dL_refused_157 : decode cL_refused 157 = .ok (.aload_n 0, 1) := by decide +kernel
theorem dL_refused_158 : decode cL_refused 158 = .ok (.iconst 2, 1) := by decide +kernel
theorem dL_refused_159 : decode cL_refused 159 = .ok (.sipush 1001, 3) := by decide +kernel
theorem dL_refused_162 : decode cL_refused 162 = .ok (.invokevirtual 82, 3) := by decide +kernel
theorem dL_refused_165 : decode cL_refused 165 = .ok (.iconst (-1), 1) := by decide +kernel
theorem dL_refused_166 : decode cL_refused 166 = .ok (.if_icmp .ne 45, 3) := by decide +kernel
theorem dL_refused_169 : decode cL_refused 169 = .ok (.aload_n 0, 1) := by decide +kernel
theorem dL_refused_170 : decode cL_refused 170 = .ok (.iconst 3, 1) := by decide +kernel
theorem dL_refused_171 : decode cL_refused 171 = .ok (.iconst 0, 1) := by decide +kernel
theorem dL_refused_172 : decode cL_refused 172 = .ok (.invokevirtual 82, 3) := by decide +kernel
theorem dL_refused_175 : decode cL_refused 175 = .ok (.iconst (-1), 1) := by decide +kernel
theorem dL_refused_176 : decode cL_refused 176 = .ok (.if_icmp .ne 35, 3) := by decide +kernel
theorem dL_refused_179 : decode cL_refused 179 = .ok (.aload_n 0, 1) := by decide +kernel
theorem dL_refused_180 : decode cL_refused 180 = .ok (.iconst 3, 1) := by decide +kernel
theorem dL_refused_181 : decode cL_refused 181 = .ok (.ldc 85, 2) := by decide +kernel
theorem dL_refused_183 : decode cL_refused 183 = .ok (.invokevirtual 82, 3) := by decide +kernel
theorem dL_refused_186 : decode cL_refused 186 = .ok (.iconst (-1), 1) := by decide +kernel
theorem dL_refused_187 : decode cL_refused 187 = .ok (.if_icmp .ne 24, 3) := by decide +kernel
theorem dL_refused_190 : decode cL_refused 190 = .ok (.aload_n 0, 1) := by decide +kernel
theorem dL_refused_191 : decode cL_refused 191 = .ok (.iconst 4, 1) := by decide +kernel
theorem dL_refused_192 : decode cL_refused 192 = .ok (.ldc 86, 2) := by decide +kernel
theorem dL_refused_194 : decode cL_refused 194 = .ok (.invokevirtual 82, 3) := by decide +kernel
theorem dL_refused_197 : decode cL_refused 197 = .ok (.iconst (-1), 1) := by decide +kernel
theorem dL_refused_198 : decode cL_refused 198 = .ok (.if_icmp .ne 13, 3) := by decide +kernel
theorem dL_refused_201 : decode cL_refused 201 = .ok (.aload_n 0, 1) := by decide +kernel
theorem dL_refused_202 : decode cL_refused 202 = .ok (.iconst 4, 1) := by decide +kernel
theorem dL_refused_203 : decode cL_refused 203 = .ok (.iconst (-1), 1) := by decide +kernel
theorem dL_refused_204 : decode cL_refused 204 = .ok (.invokevirtual 82, 3) := by decide +kernel
theorem dL_refused_207 : decode cL_refused 207 = .ok (.iconst (-1), 1) := by decide +kernel
theorem dL_refused_208 : decode cL_refused 208 = .ok (.if_icmp .eq 5, 3) := by decide +kernel
theorem dL_refused_211 : decode cL_refused 211 = .ok (.iconst 0, 1) := by decide +kernel
theorem dL_refused_212 : decode cL_refused 212 = .ok (.ireturn, 1) := by decide +kernel
theorem dL_refused_213 : decode cL_refused 213 = .ok (.iconst 0, 1) := by decide +kernel
theorem dL_refused_214 : decode cL_refused 214 = .ok (.istore 4, 2) := by decide +kernel
theorem dL_refused_216 : decode cL_refused 216 = .ok (.iload 4, 2) := by decide +kernel
theorem dL_refused_218 : decode cL_refused 218 = .ok (.iconst 2, 1) := by decide +kernel
theorem dL_refused_219 : decode cL_refused 219 = .ok (.if_icmp .ge 57, 3) := by decide +kernel
theorem dL_refused_222 : decode cL_refused 222 = .ok (.iload 4, 2) := by decide +kernel
theorem dL_refused_224 : decode cL_refused 224 = .ok (.ifCond .ne 9, 3) := by decide +kernel
theorem dL_refused_227 : decode cL_refused 227 = .ok (.iload_n 3, 1) := by decide +kernel
theorem dL_refused_228 : decode cL_refused 228 = .ok (.iconst 1, 1) := by decide +kernel
theorem dL_refused_229 : decode cL_refused 229 = .ok (.iadd, 1) := by decide +kernel
theorem dL_refused_230 : decode cL_refused 230 = .ok (.goto 4, 3) := by decide +kernel
theorem dL_refused_233 : decode cL_refused 233 = .ok (.iconst 0, 1) := by decide +kernel
theorem dL_refused_234 : decode cL_refused 234 = .ok (.istore 5, 2) := by decide +kernel
theorem dL_refused_236 : decode cL_refused 236 = .ok (.aload_n 0, 1) := by decide +kernel
theorem dL_refused_237 : decode cL_refused 237 = .ok (.iload 5, 2) := by decide +kernel
theorem dL_refused_239 : decode cL_refused 239 = .ok (.iconst 0, 1) := by decide +kernel
theorem dL_refused_240 : decode cL_refused 240 = .ok (.invokevirtual 87, 3) := by decide +kernel
theorem dL_refused_243 : decode cL_refused 243 = .ok (.iconst (-1), 1) := by decide +kernel
theorem dL_refused_244 : decode cL_refused 244 = .ok (.if_icmp .ne 24, 3) := by decide +kernel
theorem dL_refused_247 : decode cL_refused 247 = .ok (.aload_n 0, 1) := by decide +kernel
theorem dL_refused_248 : decode cL_refused 248 = .ok (.iload 5, 2) := by decide +kernel
theorem dL_refused_250 : decode cL_refused 250 = .ok (.iconst 0, 1) := by decide +kernel
theorem dL_refused_251 : decode cL_refused 251 = .ok (.invokevirtual 25, 3) := by decide +kernel
theorem dL_refused_254 : decode cL_refused 254 = .ok (.iconst (-1), 1) := by decide +kernel
theorem dL_refused_255 : decode cL_refused 255 = .ok (.if_icmp .ne 13, 3) := by decide +kernel
theorem dL_refused_258 : decode cL_refused 258 = .ok (.aload_n 0, 1) := by decide +kernel
theorem dL_refused_259 : decode cL_refused 259 = .ok (.iload 5, 2) := by decide +kernel
