theorem dL_part_0 : decode cL_part 0 = .ok (.iload_n 0, 1) := by decide +kernel
theorem dL_part_1 : decode cL_part 1 = .ok (.ldc 7, 2) := by decide +kernel
theorem dL_part_3 : decode cL_part 3 = .ok (.iand, 1) := by decide +kernel
theorem dL_part_4 : decode cL_part 4 = .ok (.iload_n 1, 1) := by decide +kernel
theorem dL_part_5 : decode cL_part 5 = .ok (.irem, 1) := by decide +kernel
theorem dL_part_6 : decode cL_part 6 = .ok (.ireturn, 1) := by decide +kernel
theorem dL_take_0 : decode cL_take 0 = .ok (.aload_n 0, 1) := by decide +kernel
theorem dL_take_1 : decode cL_take 1 = .ok (.arraylength, 1) := by decide +kernel
theorem dL_take_2 : decode cL_take 2 = .ok (.ifCond .ne 13, 3) := by decide +kernel
theorem dL_take_5 : decode cL_take 5 = .ok (.sipush 7919, 3) := by decide +kernel
theorem dL_take_8 : decode cL_take 8 = .ok (.iload_n 1, 1) := by decide +kernel
theorem dL_take_9 : decode cL_take 9 = .ok (.imul, 1) := by decide +kernel
theorem dL_take_10 : decode cL_take 10 = .ok (.iconst 3, 1) := by decide +kernel
theorem dL_take_11 : decode cL_take 11 = .ok (.iadd, 1) := by decide +kernel
theorem dL_take_12 : decode cL_take 12 = .ok (.goto 27, 3) := by decide +kernel
theorem dL_take_15 : decode cL_take 15 = .ok (.aload_n 0, 1) := by decide +kernel
theorem dL_take_16 : decode cL_take 16 = .ok (.iload_n 1, 1) := by decide +kernel
theorem dL_take_17 : decode cL_take 17 = .ok (.aload_n 0, 1) := by decide +kernel
theorem dL_take_18 : decode cL_take 18 = .ok (.arraylength, 1) := by decide +kernel
theorem dL_take_19 : decode cL_take 19 = .ok (.irem, 1) := by decide +kernel
theorem dL_take_20 : decode cL_take 20 = .ok (.iaload, 1) := by decide +kernel
theorem dL_take_21 : decode cL_take 21 = .ok (.iload_n 1, 1) := by decide +kernel
theorem dL_take_22 : decode cL_take 22 = .ok (.bipush 7, 2) := by decide +kernel
theorem dL_take_24 : decode cL_take 24 = .ok (.irem, 1) := by decide +kernel
theorem dL_take_25 : decode cL_take 25 = .ok (.ishr, 1) := by decide +kernel
theorem dL_take_26 : decode cL_take 26 = .ok (.iload_n 1, 1) := by decide +kernel
theorem dL_take_27 : decode cL_take 27 = .ok (.aload_n 0, 1) := by decide +kernel
theorem dL_take_28 : decode cL_take 28 = .ok (.arraylength, 1) := by decide +kernel
theorem dL_take_29 : decode cL_take 29 = .ok (.idiv, 1) := by decide +kernel
theorem dL_take_30 : decode cL_take 30 = .ok (.bipush 31, 2) := by decide +kernel
theorem dL_take_32 : decode cL_take 32 = .ok (.imul, 1) := by decide +kernel
theorem dL_take_33 : decode cL_take 33 = .ok (.ixor, 1) := by decide +kernel
theorem dL_take_34 : decode cL_take 34 = .ok (.iload_n 1, 1) := by decide +kernel
theorem dL_take_35 : decode cL_take 35 = .ok (.ldc 8, 2) := by decide +kernel
theorem dL_take_37 : decode cL_take 37 = .ok (.imul, 1) := by decide +kernel
theorem dL_take_38 : decode cL_take 38 = .ok (.ixor, 1) := by decide +kernel
theorem dL_take_39 : decode cL_take 39 = .ok (.ireturn, 1) := by decide +kernel
theorem dL_mixed_0 : decode cL_mixed 0 = .ok (.ldc2_w 9, 3) := by decide +kernel
theorem dL_mixed_3 : decode cL_mixed 3 = .ok (.lload_n 0, 1) := by decide +kernel
theorem dL_mixed_4 : decode cL_mixed 4 = .ok (.lmul, 1) := by decide +kernel
theorem dL_mixed_5 : decode cL_mixed 5 = .ok (.lload_n 2, 1) := by decide +kernel
theorem dL_mixed_6 : decode cL_mixed 6 = .ok (.ladd, 1) := by decide +kernel
theorem dL_mixed_7 : decode cL_mixed 7 = .ok (.lreturn, 1) := by decide +kernel
theorem dL_state_0 : decode cL_state 0 = .ok (.ldc2_w 11, 3) := by decide +kernel
theorem dL_state_3 : decode cL_state 3 = .ok (.lstore_n 1, 1) := by decide +kernel
theorem dL_state_4 : decode cL_state 4 = .ok (.iconst 0, 1) := by decide +kernel
theorem dL_state_5 : decode cL_state 5 = .ok (.istore_n 3, 1) := by decide +kernel
theorem dL_state_6 : decode cL_state 6 = .ok (.iload_n 3, 1) := by decide +kernel
theorem dL_state_7 : decode cL_state 7 = .ok (.bipush 12, 2) := by decide +kernel
theorem dL_state_9 : decode cL_state 9 = .ok (.if_icmp .ge 20, 3) := by decide +kernel
theorem dL_state_12 : decode cL_state 12 = .ok (.lload_n 1, 1) := by decide +kernel
theorem dL_state_13 : decode cL_state 13 = .ok (.aload_n 0, 1) := by decide +kernel
theorem dL_state_14 : decode cL_state 14 = .ok (.iload_n 3, 1) := by decide +kernel
theorem dL_state_15 : decode cL_state 15 = .ok (.invokevirtual 13, 3) := by decide +kernel
theorem dL_state_18 : decode cL_state 18 = .ok (.i2l, 1) := by decide +kernel
theorem dL_state_19 : decode cL_state 19 = .ok (.invokestatic 19, 3) := by decide +kernel
theorem dL_state_22 : decode cL_state 22 = .ok (.lstore_n 1, 1) := by decide +kernel
theorem dL_state_23 : decode cL_state 23 = .ok (.iinc 3 1, 3) := by decide +kernel
theorem dL_state_26 : decode cL_state 26 = .ok (.goto (-20), 3) := by decide +kernel
theorem dL_state_29 : decode cL_state 29 = .ok (.iconst 0, 1) := by decide +kernel
theorem dL_state_30 : decode cL_state 30 = .ok (.istore_n 3, 1) := by decide +kernel
theorem dL_state_31 : decode cL_state 31 = .ok (.iload_n 3, 1) := by decide +kernel
theorem dL_state_32 : decode cL_state 32 = .ok (.bipush 6, 2) := by decide +kernel
theorem dL_state_34 : decode cL_state 34 = .ok (.aload_n 0, 1) := by decide +kernel
theorem dL_state_35 : decode cL_state 35 = .ok (.iconst 0, 1) := by decide +kernel
theorem dL_state_36 : decode cL_state 36 = .ok (.invokevirtual 13, 3) := by decide +kernel
theorem dL_state_39 : decode cL_state 39 = .ok (.imul, 1) := by decide +kernel
theorem dL_state_40 : decode cL_state 40 = .ok (.if_icmp .ge 29, 3) := by decide +kernel
theorem dL_state_43 : decode cL_state 43 = .ok (.lload_n 1, 1) := by decide +kernel
theorem dL_state_44 : decode cL_state 44 = .ok (.aload_n 0, 1) := by decide +kernel
theorem dL_state_45 : decode cL_state 45 = .ok (.iconst 1, 1) := by decide +kernel
theorem dL_state_46 : decode cL_state 46 = .ok (.iload_n 3, 1) := by decide +kernel
theorem dL_state_47 : decode cL_state 47 = .ok (.bipush 6, 2) := by decide +kernel
theorem dL_state_49 : decode cL_state 49 = .ok (.idiv, 1) := by decide +kernel
theorem dL_state_50 : decode cL_state 50 = .ok (.iadd, 1) := by decide +kernel
theorem dL_state_51 : decode cL_state 51 = .ok (.iload_n 3, 1) := by decide +kernel
theorem dL_state_52 : decode cL_state 52 = .ok (.bipush 6, 2) := by decide +kernel
theorem dL_state_54 : decode cL_state 54 = .ok (.irem, 1) := by decide +kernel
theorem dL_state_55 : decode cL_state 55 = .ok (.invokevirtual 25, 3) := by decide +kernel
theorem dL_state_58 : decode cL_state 58 = .ok (.i2l, 1) := by decide +kernel
theorem dL_state_59 : decode cL_state 59 = .ok (.invokestatic 19, 3) := by decide +kernel
theorem dL_state_62 : decode cL_state 62 = .ok (.lstore_n 1, 1) := by decide +kernel
theorem dL_state_63 : decode cL_state 63 = .ok (.iinc 3 1, 3) := by decide +kernel
theorem dL_state_66 : decode cL_state 66 = .ok (.goto (-35), 3) := by decide +kernel
theorem dL_state_69 : decode cL_state 69 = .ok (.iconst 0, 1) := by decide +kernel
theorem dL_state_70 : decode cL_state 70 = .ok (.istore_n 3, 1) := by decide +kernel
theorem dL_state_71 : decode cL_state 71 = .ok (.iload_n 3, 1) := by decide +kernel
theorem dL_state_72 : decode cL_state 72 = .ok (.bipush 36, 2) := by decide +kernel
theorem dL_state_74 : decode cL_state 74 = .ok (.if_icmp .ge 27, 3) := by decide +kernel
theorem dL_state_77 : decode cL_state 77 = .ok (.lload_n 1, 1) := by decide +kernel
theorem dL_state_78 : decode cL_state 78 = .ok (.aload_n 0, 1) := by decide +kernel
theorem dL_state_79 : decode cL_state 79 = .ok (.iload_n 3, 1) := by decide +kernel
theorem dL_state_80 : decode cL_state 80 = .ok (.bipush 9, 2) := by decide +kernel
theorem dL_state_82 : decode cL_state 82 = .ok (.idiv, 1) := by decide +kernel
theorem dL_state_83 : decode cL_state 83 = .ok (.iload_n 3, 1) := by decide +kernel
theorem dL_state_84 : decode cL_state 84 = .ok (.bipush 9, 2) := by decide +kernel
theorem dL_state_86 : decode cL_state 86 = .ok (.irem, 1) := by decide +kernel
theorem dL_state_87 : decode cL_state 87 = .ok (.invokevirtual 29, 3) := by decide +kernel
theorem dL_state_90 : decode cL_state 90 = .ok (.i2l, 1) := by decide +kernel
theorem dL_state_91 : decode cL_state 91 = .ok (.invokestatic 19, 3) := by decide +kernel
theorem dL_state_94 : decode cL_state 94 = .ok (.lstore_n 1, 1) := by decide +kernel
theorem dL_state_95 : decode cL_state 95 = .ok (.iinc 3 1, 3) := by decide +kernel
theorem dL_state_98 : decode cL_state 98 = .ok (.goto (-27), 3) := by decide +kernel
theorem dL_state_101 : decode cL_state 101 = .ok (.iconst 0, 1) := by decide +kernel
theorem dL_state_102 : decode cL_state 102 = .ok (.istore_n 3, 1) := by decide +kernel
theorem dL_state_103 : decode cL_state 103 = .ok (.iload_n 3, 1) := by decide +kernel
theorem dL_state_104 : decode cL_state 104 = .ok (.bipush 48, 2) := by decide +kernel
theorem dL_state_106 : decode cL_state 106 = .ok (.if_icmp .ge 30, 3) := by decide +kernel
theorem dL_state_109 : decode cL_state 109 = .ok (.lload_n 1, 1) := by decide +kernel
theorem dL_state_110 : decode cL_state 110 = .ok (.aload_n 0, 1) := by decide +kernel
theorem dL_state_111 : decode cL_state 111 = .ok (.iload_n 3, 1) := by decide +kernel
theorem dL_state_112 : decode cL_state 112 = .ok (.bipush 12, 2) := by decide +kernel
theorem dL_state_114 : decode cL_state 114 = .ok (.idiv, 1) := by decide +kernel
theorem dL_state_115 : decode cL_state 115 = .ok (.iconst 1, 1) := by decide +kernel
theorem dL_state_116 : decode cL_state 116 = .ok (.iload_n 3, 1) := by decide +kernel
theorem dL_state_117 : decode cL_state 117 = .ok (.bipush 12, 2) := by decide +kernel
theorem dL_state_119 : decode cL_state 119 = .ok (.irem, 1) := by decide +kernel
theorem dL_state_120 : decode cL_state 120 = .ok (.iadd, 1) := by decide +kernel
theorem dL_state_121 : decode cL_state 121 = .ok (.iconst 0, 1) := by decide +kernel
theorem dL_state_122 : decode cL_state 122 = .ok (.invokevirtual 32, 3) := by decide +kernel
theorem dL_state_125 : decode cL_state 125 = .ok (.i2l, 1) := by decide +kernel
theorem dL_state_126 : decode cL_state 126 = .ok (.invokestatic 19, 3) := by decide +kernel
theorem dL_state_129 : decode cL_state 129 = .ok (.lstore_n 1, 1) := by decide +kernel
theorem dL_state_130 : decode cL_state 130 = .ok (.iinc 3 1, 3) := by decide +kernel
theorem dL_state_133 : decode cL_state 133 = .ok (.goto (-30), 3) := by decide +kernel
theorem dL_state_136 : decode cL_state 136 = .ok (.iconst 0, 1) := by decide +kernel
theorem dL_state_137 : decode cL_state 137 = .ok (.istore_n 3, 1) := by decide +kernel
theorem dL_state_138 : decode cL_state 138 = .ok (.iload_n 3, 1) := by decide +kernel
theorem dL_state_139 : decode cL_state 139 = .ok (.iconst 3, 1) := by decide +kernel
theorem dL_state_140 : decode cL_state 140 = .ok (.aload_n 0, 1) := by decide +kernel
theorem dL_state_141 : decode cL_state 141 = .ok (.iconst 4, 1) := by decide +kernel
theorem dL_state_142 : decode cL_state 142 = .ok (.invokevirtual 13, 3) := by decide +kernel
theorem dL_state_145 : decode cL_state 145 = .ok (.imul, 1) := by decide +kernel
theorem dL_state_146 : decode cL_state 146 = .ok (.if_icmp .ge 25, 3) := by decide +kernel
theorem dL_state_149 : decode cL_state 149 = .ok (.lload_n 1, 1) := by decide +kernel
theorem dL_state_150 : decode cL_state 150 = .ok (.aload_n 0, 1) := by decide +kernel
theorem dL_state_151 : decode cL_state 151 = .ok (.iload_n 3, 1) := by decide +kernel
theorem dL_state_152 : decode cL_state 152 = .ok (.iconst 3, 1) := by decide +kernel
theorem dL_state_153 : decode cL_state 153 = .ok (.idiv, 1) := by decide +kernel
theorem dL_state_154 : decode cL_state 154 = .ok (.iload_n 3, 1) := by decide +kernel
theorem dL_state_155 : decode cL_state 155 = .ok (.iconst 3, 1) := by decide +kernel
theorem dL_state_156 : decode cL_state 156 = .ok (.irem, 1) := by decide +kernel
theorem dL_state_157 : decode cL_state 157 = .ok (.invokevirtual 36, 3) := by decide +kernel
theorem dL_state_160 : decode cL_state 160 = .ok (.i2l, 1) := by decide +kernel
theorem dL_state_161 : decode cL_state 161 = .ok (.invokestatic 19, 3) := by decide +kernel
theorem dL_state_164 : decode cL_state 164 = .ok (.lstore_n 1, 1) := by decide +kernel
theorem dL_state_165 : decode cL_state 165 = .ok (.iinc 3 1, 3) := by decide +kernel
theorem dL_state_168 : decode cL_state 168 = .ok (.goto (-30), 3) := by decide +kernel
theorem dL_state_171 : decode cL_state 171 = .ok (.lload_n 1, 1) := by decide +kernel
theorem dL_state_172 : decode cL_state 172 = .ok (.lreturn, 1) := by decide +kernel
theorem dL_types_0 : decode cL_types 0 = .ok (.bipush 7, 2) := by decide +kernel
theorem dL_types_2 : decode cL_types 2 = .ok (.istore_n 3, 1) := by decide +kernel
theorem dL_types_3 : decode cL_types 3 = .ok (.iload_n 3, 1) := by decide +kernel
theorem dL_types_4 : decode cL_types 4 = .ok (.ifCond .lt 34, 3) := by decide +kernel
theorem dL_types_7 : decode cL_types 7 = .ok (.lload_n 1, 1) := by decide +kernel
theorem dL_types_8 : decode cL_types 8 = .ok (.bipush 8, 2) := by decide +kernel
theorem dL_types_10 : decode cL_types 10 = .ok (.iload_n 3, 1) := by decide +kernel
theorem dL_types_11 : decode cL_types 11 = .ok (.imul, 1) := by decide +kernel
theorem dL_types_12 : decode cL_types 12 = .ok (.lshr, 1) := by decide +kernel
theorem dL_types_13 : decode cL_types 13 = .ok (.ldc2_w 102, 3) := by decide +kernel
theorem dL_types_16 : decode cL_types 16 = .ok (.land, 1) := by decide +kernel
theorem dL_types_17 : decode cL_types 17 = .ok (.l2i, 1) := by decide +kernel
theorem dL_types_18 : decode cL_types 18 = .ok (.istore 4, 2) := by decide +kernel
theorem dL_types_20 : decode cL_types 20 = .ok (.iload 4, 2) := by decide +kernel
theorem dL_types_22 : decode cL_types 22 = .ok (.ifCond .eq 10, 3) := by decide +kernel
theorem dL_types_25 : decode cL_types 25 = .ok (.aload_n 0, 1) := by decide +kernel
theorem dL_types_26 : decode cL_types 26 = .ok (.iload 4, 2) := by decide +kernel
theorem dL_types_28 : decode cL_types 28 = .ok (.invokevirtual 96, 3) := by decide +kernel
theorem dL_types_31 : decode cL_types 31 = .ok (.pop, 1) := by decide +kernel
theorem dL_types_32 : decode cL_types 32 = .ok (.iinc 3 (-1), 3) := by decide +kernel
theorem dL_types_35 : decode cL_types 35 = .ok (.goto (-32), 3) := by decide +kernel
theorem dL_types_38 : decode cL_types 38 = .ok (.return_, 1) := by decide +kernel
theorem dL_isFault_0 : decode cL_isFault 0 = .ok (.aload_n 0, 1) := by decide +kernel
theorem dL_isFault_1 : decode cL_isFault 1 = .ok (.invokevirtual 104, 3) := by decide +kernel
theorem dL_isFault_4 : decode cL_isFault 4 = .ok (.pop, 1) := by decide +kernel
theorem dL_isFault_5 : decode cL_isFault 5 = .ok (.aload_n 0, 1) := by decide +kernel
theorem dL_isFault_6 : decode cL_isFault 6 = .ok (.lload_n 1, 1) := by decide +kernel
theorem dL_isFault_7 : decode cL_isFault 7 = .ok (.invokestatic 108, 3) := by decide +kernel
theorem dL_isFault_10 : decode cL_isFault 10 = .ok (.aload_n 0, 1) := by decide +kernel
theorem dL_isFault_11 : decode cL_isFault 11 = .ok (.lload_n 3, 1) := by decide +kernel
theorem dL_isFault_12 : decode cL_isFault 12 = .ok (.invokestatic 108, 3) := by decide +kernel
theorem dL_isFault_15 : decode cL_isFault 15 = .ok (.aload_n 0, 1) := by decide +kernel
theorem dL_isFault_16 : decode cL_isFault 16 = .ok (.iconst 0, 1) := by decide +kernel
theorem dL_isFault_17 : decode cL_isFault 17 = .ok (.invokevirtual 99, 3) := by decide +kernel
theorem dL_isFault_20 : decode cL_isFault 20 = .ok (.iload 5, 2) := by decide +kernel
theorem dL_isFault_22 : decode cL_isFault 22 = .ok (.if_icmp .ne 17, 3) := by decide +kernel
theorem dL_isFault_25 : decode cL_isFault 25 = .ok (.aload_n 0, 1) := by decide +kernel
theorem dL_isFault_26 : decode cL_isFault 26 = .ok (.iconst 1, 1) := by decide +kernel
theorem dL_isFault_27 : decode cL_isFault 27 = .ok (.invokevirtual 99, 3) := by decide +kernel
theorem dL_isFault_30 : decode cL_isFault 30 = .ok (.iload 6, 2) := by decide +kernel
theorem dL_isFault_32 : decode cL_isFault 32 = .ok (.if_icmp .ne 7, 3) := by decide +kernel
theorem dL_isFault_35 : decode cL_isFault 35 = .ok (.iconst 1, 1) := by decide +kernel
theorem dL_isFault_36 : decode cL_isFault 36 = .ok (.goto 4, 3) := by decide +kernel
theorem dL_isFault_39 : decode cL_isFault 39 = .ok (.iconst 0, 1) := by decide +kernel
theorem dL_isFault_40 : decode cL_isFault 40 = .ok (.ireturn, 1) := by decide +kernel
