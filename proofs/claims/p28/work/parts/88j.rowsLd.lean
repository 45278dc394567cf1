theorem dL_known_0 : decode cL_known 0 = .ok (.new 14, 3) := by decide +kernel
theorem dL_known_3 : decode cL_known 3 = .ok (.dup, 1) := by decide +kernel
theorem dL_known_4 : decode cL_known 4 = .ok (.invokespecial 112, 3) := by decide +kernel
theorem dL_known_7 : decode cL_known 7 = .ok (.astore_n 0, 1) := by decide +kernel
theorem dL_known_8 : decode cL_known 8 = .ok (.aload_n 0, 1) := by decide +kernel
theorem dL_known_9 : decode cL_known 9 = .ok (.invokestatic 185, 3) := by decide +kernel
theorem dL_known_12 : decode cL_known 12 = .ok (.ifCond .eq 148, 3) := by decide +kernel
theorem dL_known_15 : decode cL_known 15 = .ok (.aload_n 0, 1) := by decide +kernel
theorem dL_known_16 : decode cL_known 16 = .ok (.invokevirtual 180, 3) := by decide +kernel
theorem dL_known_19 : decode cL_known 19 = .ok (.bipush (-2), 2) := by decide +kernel
theorem dL_known_21 : decode cL_known 21 = .ok (.if_icmp .ne 139, 3) := by decide +kernel
theorem dL_known_24 : decode cL_known 24 = .ok (.aload_n 0, 1) := by decide +kernel
theorem dL_known_25 : decode cL_known 25 = .ok (.iconst 0, 1) := by decide +kernel
theorem dL_known_26 : decode cL_known 26 = .ok (.iconst 4, 1) := by decide +kernel
theorem dL_known_27 : decode cL_known 27 = .ok (.invokevirtual 29, 3) := by decide +kernel
theorem dL_known_30 : decode cL_known 30 = .ok (.sipush 2520, 3) := by decide +kernel
theorem dL_known_33 : decode cL_known 33 = .ok (.if_icmp .ne 127, 3) := by decide +kernel
theorem dL_known_36 : decode cL_known 36 = .ok (.aload_n 0, 1) := by decide +kernel
theorem dL_known_37 : decode cL_known 37 = .ok (.iconst 0, 1) := by decide +kernel
theorem dL_known_38 : decode cL_known 38 = .ok (.iconst 1, 1) := by decide +kernel
theorem dL_known_39 : decode cL_known 39 = .ok (.iconst 1, 1) := by decide +kernel
theorem dL_known_40 : decode cL_known 40 = .ok (.invokevirtual 32, 3) := by decide +kernel
theorem dL_known_43 : decode cL_known 43 = .ok (.sipush 396, 3) := by decide +kernel
theorem dL_known_46 : decode cL_known 46 = .ok (.if_icmp .ne 114, 3) := by decide +kernel
theorem dL_known_49 : decode cL_known 49 = .ok (.aload_n 0, 1) := by decide +kernel
theorem dL_known_50 : decode cL_known 50 = .ok (.iconst 0, 1) := by decide +kernel
theorem dL_known_51 : decode cL_known 51 = .ok (.iconst 2, 1) := by decide +kernel
theorem dL_known_52 : decode cL_known 52 = .ok (.iconst 1, 1) := by decide +kernel
theorem dL_known_53 : decode cL_known 53 = .ok (.invokevirtual 32, 3) := by decide +kernel
theorem dL_known_56 : decode cL_known 56 = .ok (.sipush 793, 3) := by decide +kernel
theorem dL_known_59 : decode cL_known 59 = .ok (.if_icmp .ne 101, 3) := by decide +kernel
theorem dL_known_62 : decode cL_known 62 = .ok (.aload_n 0, 1) := by decide +kernel
theorem dL_known_63 : decode cL_known 63 = .ok (.iconst 0, 1) := by decide +kernel
theorem dL_known_64 : decode cL_known 64 = .ok (.bipush 12, 2) := by decide +kernel
theorem dL_known_66 : decode cL_known 66 = .ok (.iconst 2, 1) := by decide +kernel
theorem dL_known_67 : decode cL_known 67 = .ok (.invokevirtual 32, 3) := by decide +kernel
theorem dL_known_70 : decode cL_known 70 = .ok (.bipush 11, 2) := by decide +kernel
theorem dL_known_72 : decode cL_known 72 = .ok (.if_icmp .ne 88, 3) := by decide +kernel
theorem dL_known_75 : decode cL_known 75 = .ok (.aload_n 0, 1) := by decide +kernel
theorem dL_known_76 : decode cL_known 76 = .ok (.iconst 0, 1) := by decide +kernel
theorem dL_known_77 : decode cL_known 77 = .ok (.bipush 11, 2) := by decide +kernel
theorem dL_known_79 : decode cL_known 79 = .ok (.iconst 2, 1) := by decide +kernel
theorem dL_known_80 : decode cL_known 80 = .ok (.invokevirtual 32, 3) := by decide +kernel
theorem dL_known_83 : decode cL_known 83 = .ok (.ifCond .ne 77, 3) := by decide +kernel
theorem dL_known_86 : decode cL_known 86 = .ok (.aload_n 0, 1) := by decide +kernel
theorem dL_known_87 : decode cL_known 87 = .ok (.iconst 0, 1) := by decide +kernel
theorem dL_known_88 : decode cL_known 88 = .ok (.iconst 5, 1) := by decide +kernel
theorem dL_known_89 : decode cL_known 89 = .ok (.iconst 2, 1) := by decide +kernel
theorem dL_known_90 : decode cL_known 90 = .ok (.invokevirtual 32, 3) := by decide +kernel
theorem dL_known_93 : decode cL_known 93 = .ok (.iconst 4, 1) := by decide +kernel
theorem dL_known_94 : decode cL_known 94 = .ok (.if_icmp .ne 66, 3) := by decide +kernel
theorem dL_known_97 : decode cL_known 97 = .ok (.aload_n 0, 1) := by decide +kernel
theorem dL_known_98 : decode cL_known 98 = .ok (.iconst 0, 1) := by decide +kernel
theorem dL_known_99 : decode cL_known 99 = .ok (.iconst 2, 1) := by decide +kernel
theorem dL_known_100 : decode cL_known 100 = .ok (.sipush 1260, 3) := by decide +kernel
theorem dL_known_103 : decode cL_known 103 = .ok (.invokevirtual 54, 3) := by decide +kernel
theorem dL_known_106 : decode cL_known 106 = .ok (.iconst 1, 1) := by decide +kernel
theorem dL_known_107 : decode cL_known 107 = .ok (.if_icmp .ne 53, 3) := by decide +kernel
theorem dL_known_110 : decode cL_known 110 = .ok (.aload_n 0, 1) := by decide +kernel
theorem dL_known_111 : decode cL_known 111 = .ok (.iconst 0, 1) := by decide +kernel
theorem dL_known_112 : decode cL_known 112 = .ok (.iconst 3, 1) := by decide +kernel
theorem dL_known_113 : decode cL_known 113 = .ok (.sipush 1260, 3) := by decide +kernel
theorem dL_known_116 : decode cL_known 116 = .ok (.invokevirtual 54, 3) := by decide +kernel
theorem dL_known_119 : decode cL_known 119 = .ok (.ifCond .ne 41, 3) := by decide +kernel
theorem dL_known_122 : decode cL_known 122 = .ok (.aload_n 0, 1) := by decide +kernel
theorem dL_known_123 : decode cL_known 123 = .ok (.iconst 0, 1) := by decide +kernel
theorem dL_known_124 : decode cL_known 124 = .ok (.iconst 3, 1) := by decide +kernel
theorem dL_known_125 : decode cL_known 125 = .ok (.sipush 840, 3) := by decide +kernel
theorem dL_known_128 : decode cL_known 128 = .ok (.invokevirtual 54, 3) := by decide +kernel
theorem dL_known_131 : decode cL_known 131 = .ok (.iconst 1, 1) := by decide +kernel
theorem dL_known_132 : decode cL_known 132 = .ok (.if_icmp .ne 28, 3) := by decide +kernel
theorem dL_known_135 : decode cL_known 135 = .ok (.aload_n 0, 1) := by decide +kernel
theorem dL_known_136 : decode cL_known 136 = .ok (.iconst 0, 1) := by decide +kernel
theorem dL_known_137 : decode cL_known 137 = .ok (.iconst 3, 1) := by decide +kernel
theorem dL_known_138 : decode cL_known 138 = .ok (.sipush 840, 3) := by decide +kernel
theorem dL_known_141 : decode cL_known 141 = .ok (.invokevirtual 57, 3) := by decide +kernel
theorem dL_known_144 : decode cL_known 144 = .ok (.iconst 1, 1) := by decide +kernel
theorem dL_known_145 : decode cL_known 145 = .ok (.if_icmp .ne 15, 3) := by decide +kernel
theorem dL_known_148 : decode cL_known 148 = .ok (.aload_n 0, 1) := by decide +kernel
