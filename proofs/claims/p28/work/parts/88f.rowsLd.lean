theorem dL_texts_0 : decode cL_texts 0 = .ok (.new 14, 3) := by decide +kernel
theorem dL_texts_3 : decode cL_texts 3 = .ok (.dup, 1) := by decide +kernel
theorem dL_texts_4 : decode cL_texts 4 = .ok (.invokespecial 112, 3) := by decide +kernel
theorem dL_texts_7 : decode cL_texts 7 = .ok (.astore_n 0, 1) := by decide +kernel
theorem dL_texts_8 : decode cL_texts 8 = .ok (.aload_n 0, 1) := by decide +kernel
theorem dL_texts_9 : decode cL_texts 9 = .ok (.sipush 400, 3) := by decide +kernel
theorem dL_texts_12 : decode cL_texts 12 = .ok (.sipush 1000, 3) := by decide +kernel
theorem dL_texts_15 : decode cL_texts 15 = .ok (.invokevirtual 79, 3) := by decide +kernel
theorem dL_texts_18 : decode cL_texts 18 = .ok (.iconst 1, 1) := by decide +kernel
theorem dL_texts_19 : decode cL_texts 19 = .ok (.if_icmp .ne 48, 3) := by decide +kernel
theorem dL_texts_22 : decode cL_texts 22 = .ok (.aload_n 0, 1) := by decide +kernel
theorem dL_texts_23 : decode cL_texts 23 = .ok (.sipush 800, 3) := by decide +kernel
theorem dL_texts_26 : decode cL_texts 26 = .ok (.sipush 900, 3) := by decide +kernel
theorem dL_texts_29 : decode cL_texts 29 = .ok (.invokevirtual 79, 3) := by decide +kernel
theorem dL_texts_32 : decode cL_texts 32 = .ok (.iconst 2, 1) := by decide +kernel
theorem dL_texts_33 : decode cL_texts 33 = .ok (.if_icmp .ne 34, 3) := by decide +kernel
theorem dL_texts_36 : decode cL_texts 36 = .ok (.aload_n 0, 1) := by decide +kernel
theorem dL_texts_37 : decode cL_texts 37 = .ok (.sipush 1200, 3) := by decide +kernel
theorem dL_texts_40 : decode cL_texts 40 = .ok (.sipush 800, 3) := by decide +kernel
theorem dL_texts_43 : decode cL_texts 43 = .ok (.invokevirtual 79, 3) := by decide +kernel
theorem dL_texts_46 : decode cL_texts 46 = .ok (.iconst 3, 1) := by decide +kernel
theorem dL_texts_47 : decode cL_texts 47 = .ok (.if_icmp .ne 20, 3) := by decide +kernel
theorem dL_texts_50 : decode cL_texts 50 = .ok (.aload_n 0, 1) := by decide +kernel
theorem dL_texts_51 : decode cL_texts 51 = .ok (.invokevirtual 113, 3) := by decide +kernel
theorem dL_texts_54 : decode cL_texts 54 = .ok (.ifCond .ne 13, 3) := by decide +kernel
theorem dL_texts_57 : decode cL_texts 57 = .ok (.aload_n 0, 1) := by decide +kernel
theorem dL_texts_58 : decode cL_texts 58 = .ok (.bipush 12, 2) := by decide +kernel
theorem dL_texts_60 : decode cL_texts 60 = .ok (.invokevirtual 13, 3) := by decide +kernel
theorem dL_texts_63 : decode cL_texts 63 = .ok (.iconst 4, 1) := by decide +kernel
theorem dL_texts_64 : decode cL_texts 64 = .ok (.if_icmp .eq 5, 3) := by decide +kernel
theorem dL_texts_67 : decode cL_texts 67 = .ok (.iconst 0, 1) := by decide +kernel
theorem dL_texts_68 : decode cL_texts 68 = .ok (.ireturn, 1) := by decide +kernel
theorem dL_texts_69 : decode cL_texts 69 = .ok (.aload_n 0, 1) := by decide +kernel
theorem dL_texts_70 : decode cL_texts 70 = .ok (.ldc2_w 116, 3) := by decide +kernel
theorem dL_texts_73 : decode cL_texts 73 = .ok (.lconst 0, 1) := by decide +kernel
theorem dL_texts_74 : decode cL_texts 74 = .ok (.bipush (-4), 2) := by decide +kernel
theorem dL_texts_76 : decode cL_texts 76 = .ok (.bipush (-4), 2) := by decide +kernel
theorem dL_texts_78 : decode cL_texts 78 = .ok (.invokestatic 118, 3) := by decide +kernel
theorem dL_texts_81 : decode cL_texts 81 = .ok (.ifCond .eq 44, 3) := by decide +kernel
theorem dL_texts_84 : decode cL_texts 84 = .ok (.aload_n 0, 1) := by decide +kernel
theorem dL_texts_85 : decode cL_texts 85 = .ok (.ldc2_w 122, 3) := by decide +kernel
theorem dL_texts_88 : decode cL_texts 88 = .ok (.lconst 0, 1) := by decide +kernel
theorem dL_texts_89 : decode cL_texts 89 = .ok (.iconst 0, 1) := by decide +kernel
theorem dL_texts_90 : decode cL_texts 90 = .ok (.iconst 1, 1) := by decide +kernel
theorem dL_texts_91 : decode cL_texts 91 = .ok (.invokestatic 118, 3) := by decide +kernel
theorem dL_texts_94 : decode cL_texts 94 = .ok (.ifCond .eq 31, 3) := by decide +kernel
theorem dL_texts_97 : decode cL_texts 97 = .ok (.aload_n 0, 1) := by decide +kernel
theorem dL_texts_98 : decode cL_texts 98 = .ok (.ldc2_w 124, 3) := by decide +kernel
theorem dL_texts_101 : decode cL_texts 101 = .ok (.lconst 0, 1) := by decide +kernel
theorem dL_texts_102 : decode cL_texts 102 = .ok (.iconst 0, 1) := by decide +kernel
theorem dL_texts_103 : decode cL_texts 103 = .ok (.iconst 2, 1) := by decide +kernel
theorem dL_texts_104 : decode cL_texts 104 = .ok (.invokestatic 118, 3) := by decide +kernel
theorem dL_texts_107 : decode cL_texts 107 = .ok (.ifCond .eq 18, 3) := by decide +kernel
theorem dL_texts_110 : decode cL_texts 110 = .ok (.aload_n 0, 1) := by decide +kernel
theorem dL_texts_111 : decode cL_texts 111 = .ok (.ldc2_w 126, 3) := by decide +kernel
theorem dL_texts_114 : decode cL_texts 114 = .ok (.lconst 0, 1) := by decide +kernel
theorem dL_texts_115 : decode cL_texts 115 = .ok (.bipush (-4), 2) := by decide +kernel
theorem dL_texts_117 : decode cL_texts 117 = .ok (.bipush (-4), 2) := by decide +kernel
theorem dL_texts_119 : decode cL_texts 119 = .ok (.invokestatic 118, 3) := by decide +kernel
theorem dL_texts_122 : decode cL_texts 122 = .ok (.ifCond .ne 5, 3) := by decide +kernel
theorem dL_texts_125 : decode cL_texts 125 = .ok (.iconst 0, 1) := by decide +kernel
theorem dL_texts_126 : decode cL_texts 126 = .ok (.ireturn, 1) := by decide +kernel
theorem dL_texts_127 : decode cL_texts 127 = .ok (.aload_n 0, 1) := by decide +kernel
theorem dL_texts_128 : decode cL_texts 128 = .ok (.ldc2_w 128, 3) := by decide +kernel
theorem dL_texts_131 : decode cL_texts 131 = .ok (.ldc2_w 130, 3) := by decide +kernel
theorem dL_texts_134 : decode cL_texts 134 = .ok (.bipush (-4), 2) := by decide +kernel
theorem dL_texts_136 : decode cL_texts 136 = .ok (.bipush (-4), 2) := by decide +kernel
theorem dL_texts_138 : decode cL_texts 138 = .ok (.invokestatic 118, 3) := by decide +kernel
theorem dL_texts_141 : decode cL_texts 141 = .ok (.ifCond .eq 46, 3) := by decide +kernel
theorem dL_texts_144 : decode cL_texts 144 = .ok (.aload_n 0, 1) := by decide +kernel
theorem dL_texts_145 : decode cL_texts 145 = .ok (.ldc2_w 132, 3) := by decide +kernel
theorem dL_texts_148 : decode cL_texts 148 = .ok (.lconst 0, 1) := by decide +kernel
theorem dL_texts_149 : decode cL_texts 149 = .ok (.iconst 0, 1) := by decide +kernel
theorem dL_texts_150 : decode cL_texts 150 = .ok (.iconst 3, 1) := by decide +kernel
theorem dL_texts_151 : decode cL_texts 151 = .ok (.invokestatic 118, 3) := by decide +kernel
theorem dL_texts_154 : decode cL_texts 154 = .ok (.ifCond .eq 33, 3) := by decide +kernel
theorem dL_texts_157 : decode cL_texts 157 = .ok (.aload_n 0, 1) := by decide +kernel
theorem dL_texts_158 : decode cL_texts 158 = .ok (.ldc2_w 134, 3) := by decide +kernel
theorem dL_texts_161 : decode cL_texts 161 = .ok (.ldc2_w 136, 3) := by decide +kernel
theorem dL_texts_164 : decode cL_texts 164 = .ok (.iconst 0, 1) := by decide +kernel
theorem dL_texts_165 : decode cL_texts 165 = .ok (.iconst 3, 1) := by decide +kernel
theorem dL_texts_166 : decode cL_texts 166 = .ok (.invokestatic 118, 3) := by decide +kernel
theorem dL_texts_169 : decode cL_texts 169 = .ok (.ifCond .eq 18, 3) := by decide +kernel
theorem dL_texts_172 : decode cL_texts 172 = .ok (.aload_n 0, 1) := by decide +kernel
theorem dL_texts_173 : decode cL_texts 173 = .ok (.ldc2_w 138, 3) := by decide +kernel
theorem dL_texts_176 : decode cL_texts 176 = .ok (.ldc2_w 140, 3) := by decide +kernel
theorem dL_texts_179 : decode cL_texts 179 = .ok (.iconst 0, 1) := by decide +kernel
theorem dL_texts_180 : decode cL_texts 180 = .ok (.iconst 1, 1) := by decide +kernel
theorem dL_texts_181 : decode cL_texts 181 = .ok (.invokestatic 118, 3) := by decide +kernel
theorem dL_texts_184 : decode cL_texts 184 = .ok (.ifCond .ne 5, 3) := by decide +kernel
theorem dL_texts_187 : decode cL_texts 187 = .ok (.iconst 0, 1) := by decide +kernel
theorem dL_texts_188 : decode cL_texts 188 = .ok (.ireturn, 1) := by decide +kernel
