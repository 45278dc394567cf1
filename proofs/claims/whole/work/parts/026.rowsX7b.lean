set_option maxRecDepth 20000 in
theorem ggX7_damp_X7_isString : GoodIn wsX7_damp wsX7_isString := goodIn_r _ [4, 5, 6, 3, 7] (by decide +kernel) (by decide +kernel)
set_option maxRecDepth 20000 in
theorem gX7_damp_X7_isString : GoodIn wsX7_damp (va_wsS RX7 88 yX7_isString wsX7_isString) := goodIn_app (goodIn_of _ (by decide +kernel)) ggX7_damp_X7_isString
set_option maxRecDepth 20000 in
theorem ggX7_damp_X7_records : GoodIn wsX7_damp wsX7_records := goodIn_r _ [11, 12, 13, 14, 38, 39, 40, 41, 42, 43, 44, 45, 46, 47, 48, 49, 50] (by decide +kernel) (by decide +kernel)
set_option maxRecDepth 20000 in
theorem gX7_damp_X7_records : GoodIn wsX7_damp (wsV RX7 69 RX7 yX7_records wsX7_records) := goodIn_app (goodIn_of _ (by decide +kernel)) ggX7_damp_X7_records
set_option maxRecDepth 20000 in
theorem ggX7_damp_X7_heardOf : GoodIn wsX7_damp wsX7_heardOf := goodIn_r _ [18, 19, 20, 21, 3, 22, 23, 24, 25, 26, 14, 27, 28, 29, 30, 38, 39, 40, 41, 42, 43, 44, 45, 46, 47, 48, 49, 50] (by decide +kernel) (by decide +kernel)
set_option maxRecDepth 20000 in
theorem gX7_damp_X7_heardOf : GoodIn wsX7_damp (wsV RX7 118 RX7 yX7_heardOf wsX7_heardOf) := goodIn_app (goodIn_of _ (by decide +kernel)) ggX7_damp_X7_heardOf
set_option maxRecDepth 20000 in
theorem ggX7_damp_X7_bits : GoodIn wsX7_damp wsX7_bits := goodIn_r _ [33] (by decide +kernel) (by decide +kernel)
set_option maxRecDepth 20000 in
theorem gX7_damp_X7_bits : GoodIn wsX7_damp (va_wsS RX7 121 yX7_bits wsX7_bits) := goodIn_app (goodIn_of _ (by decide +kernel)) ggX7_damp_X7_bits
set_option maxRecDepth 20000 in
theorem ggX7_damp_X7_rests : GoodIn wsX7_damp wsX7_rests := goodIn_r _ [37, 14, 38, 39, 40, 41, 42, 43, 44, 45, 46, 47, 48, 49, 50] (by decide +kernel) (by decide +kernel)
set_option maxRecDepth 20000 in
theorem gX7_damp_X7_rests : GoodIn wsX7_damp (wsV RX7 61 RX7 yX7_rests wsX7_rests) := goodIn_app (goodIn_of _ (by decide +kernel)) ggX7_damp_X7_rests
theorem dX7_damp_0 : decode cX7_damp 0 = .ok (.iload_n 1, 1) := by decide +kernel
theorem dX7_damp_1 : decode cX7_damp 1 = .ok (.invokestatic 88, 3) := by decide +kernel
theorem dX7_damp_4 : decode cX7_damp 4 = .ok (.ifCond .ne 5, 3) := by decide +kernel
theorem dX7_damp_7 : decode cX7_damp 7 = .ok (.iconst (-1), 1) := by decide +kernel
theorem dX7_damp_8 : decode cX7_damp 8 = .ok (.ireturn, 1) := by decide +kernel
theorem dX7_damp_9 : decode cX7_damp 9 = .ok (.aload_n 0, 1) := by decide +kernel
theorem dX7_damp_10 : decode cX7_damp 10 = .ok (.invokevirtual 69, 3) := by decide +kernel
theorem dX7_damp_13 : decode cX7_damp 13 = .ok (.aload_n 0, 1) := by decide +kernel
theorem dX7_damp_14 : decode cX7_damp 14 = .ok (.iload_n 1, 1) := by decide +kernel
theorem dX7_damp_15 : decode cX7_damp 15 = .ok (.invokevirtual 118, 3) := by decide +kernel
theorem dX7_damp_18 : decode cX7_damp 18 = .ok (.invokestatic 121, 3) := by decide +kernel
theorem dX7_damp_21 : decode cX7_damp 21 = .ok (.istore_n 2, 1) := by decide +kernel
theorem dX7_damp_22 : decode cX7_damp 22 = .ok (.aload_n 0, 1) := by decide +kernel
theorem dX7_damp_23 : decode cX7_damp 23 = .ok (.iload_n 1, 1) := by decide +kernel
theorem dX7_damp_24 : decode cX7_damp 24 = .ok (.invokevirtual 61, 3) := by decide +kernel
theorem dX7_damp_27 : decode cX7_damp 27 = .ok (.iload_n 2, 1) := by decide +kernel
theorem dX7_damp_28 : decode cX7_damp 28 = .ok (.ireturn, 1) := by decide +kernel
set_option maxRecDepth 20000 in
theorem ggX7_sumOf_X7_loud : GoodIn wsX7_sumOf wsX7_loud := goodIn_r _ [5, 6, 7, 8, 9, 10, 11, 12, 13, 14, 15, 16, 17, 18, 19] (by decide +kernel) (by decide +kernel)
set_option maxRecDepth 20000 in
theorem gX7_sumOf_X7_loud : GoodIn wsX7_sumOf (wsV RX7 99 RX7 yX7_loud wsX7_loud) := goodIn_app (goodIn_of _ (by decide +kernel)) ggX7_sumOf_X7_loud
theorem dX7_sumOf_0 : decode cX7_sumOf 0 = .ok (.iconst 0, 1) := by decide +kernel
theorem dX7_sumOf_1 : decode cX7_sumOf 1 = .ok (.istore_n 2, 1) := by decide +kernel
theorem dX7_sumOf_2 : decode cX7_sumOf 2 = .ok (.iconst 1, 1) := by decide +kernel
theorem dX7_sumOf_3 : decode cX7_sumOf 3 = .ok (.istore_n 3, 1) := by decide +kernel
theorem dX7_sumOf_4 : decode cX7_sumOf 4 = .ok (.iload_n 3, 1) := by decide +kernel
theorem dX7_sumOf_5 : decode cX7_sumOf 5 = .ok (.bipush 12, 2) := by decide +kernel
theorem dX7_sumOf_7 : decode cX7_sumOf 7 = .ok (.if_icmp .gt 18, 3) := by decide +kernel
theorem dX7_sumOf_10 : decode cX7_sumOf 10 = .ok (.iload_n 2, 1) := by decide +kernel
theorem dX7_sumOf_11 : decode cX7_sumOf 11 = .ok (.aload_n 0, 1) := by decide +kernel
theorem dX7_sumOf_12 : decode cX7_sumOf 12 = .ok (.iload_n 1, 1) := by decide +kernel
theorem dX7_sumOf_13 : decode cX7_sumOf 13 = .ok (.iload_n 3, 1) := by decide +kernel
theorem dX7_sumOf_14 : decode cX7_sumOf 14 = .ok (.invokevirtual 99, 3) := by decide +kernel
theorem dX7_sumOf_17 : decode cX7_sumOf 17 = .ok (.iadd, 1) := by decide +kernel
theorem dX7_sumOf_18 : decode cX7_sumOf 18 = .ok (.istore_n 2, 1) := by decide +kernel
theorem dX7_sumOf_19 : decode cX7_sumOf 19 = .ok (.iinc 3 1, 3) := by decide +kernel
theorem dX7_sumOf_22 : decode cX7_sumOf 22 = .ok (.goto (-18), 3) := by decide +kernel
theorem dX7_sumOf_25 : decode cX7_sumOf 25 = .ok (.iload_n 2, 1) := by decide +kernel
theorem dX7_sumOf_26 : decode cX7_sumOf 26 = .ok (.ireturn, 1) := by decide +kernel
set_option maxRecDepth 20000 in
theorem ggX7_stringInfo_X7_isString : GoodIn wsX7_stringInfo wsX7_isString := goodIn_r _ [4, 5, 6, 3, 7] (by decide +kernel) (by decide +kernel)
set_option maxRecDepth 20000 in
theorem gX7_stringInfo_X7_isString : GoodIn wsX7_stringInfo (va_wsS RX7 88 yX7_isString wsX7_isString) := goodIn_app (goodIn_of _ (by decide +kernel)) ggX7_stringInfo_X7_isString
set_option maxRecDepth 20000 in
theorem ggX7_stringInfo_X7_in : GoodIn wsX7_stringInfo wsX7_in := goodIn_r _ [7] (by decide +kernel) (by decide +kernel)
set_option maxRecDepth 20000 in
theorem gX7_stringInfo_X7_in : GoodIn wsX7_stringInfo (va_wsS RX7 30 yX7_in wsX7_in) := goodIn_app (goodIn_of _ (by decide +kernel)) ggX7_stringInfo_X7_in
set_option maxRecDepth 20000 in
theorem ggX7_stringInfo_X7_of : GoodIn wsX7_stringInfo wsX7_of := goodIn_r _ [11, 12, 64, 65, 66, 67, 68, 69, 70, 71, 72, 73, 74, 75, 76] (by decide +kernel) (by decide +kernel)
set_option maxRecDepth 20000 in
theorem gX7_stringInfo_X7_of : GoodIn wsX7_stringInfo (wsV RX7 48 RX7 yX7_of wsX7_of) := goodIn_app (goodIn_of _ (by decide +kernel)) ggX7_stringInfo_X7_of
set_option maxRecDepth 20000 in
theorem ggX7_stringInfo_X7_sounds : GoodIn wsX7_stringInfo wsX7_sounds := goodIn_r _ [16, 8, 9, 10, 3, 11, 12, 17, 18, 19, 20, 21, 22, 23, 24, 25, 26, 27, 28, 29, 30, 31, 64, 65, 66, 67, 68, 69, 70, 71, 72, 73, 74, 75, 76] (by decide +kernel) (by decide +kernel)
set_option maxRecDepth 20000 in
theorem gX7_stringInfo_X7_sounds : GoodIn wsX7_stringInfo (wsV RX7 55 RX7 yX7_sounds wsX7_sounds) := goodIn_app (goodIn_of _ (by decide +kernel)) ggX7_stringInfo_X7_sounds
set_option maxRecDepth 20000 in
theorem ggX7_stringInfo_X7_buzzes : GoodIn wsX7_stringInfo wsX7_buzzes := goodIn_r _ [35, 13, 14, 15, 3, 16, 8, 9, 10, 11, 12, 17, 18, 19, 20, 21, 22, 23, 24, 25, 26, 27, 28, 29, 30, 31, 64, 65, 66, 67, 68, 69, 70, 71, 72, 73, 74, 75, 76] (by decide +kernel) (by decide +kernel)
set_option maxRecDepth 20000 in
theorem gX7_stringInfo_X7_buzzes : GoodIn wsX7_stringInfo (wsV RX7 124 RX7 yX7_buzzes wsX7_buzzes) := goodIn_app (goodIn_of _ (by decide +kernel)) ggX7_stringInfo_X7_buzzes
set_option maxRecDepth 20000 in
theorem ggX7_stringInfo_X7_lengthOf : GoodIn wsX7_stringInfo wsX7_lengthOf := goodIn_r _ [39, 40, 41, 42, 3, 43, 13, 14, 15, 16, 8, 9, 10, 11, 12, 17, 18, 19, 20, 21, 22, 23, 24, 25, 26, 27, 28, 29, 30, 31, 64, 65, 66, 67, 68, 69, 70, 71, 72, 73, 74, 75, 76] (by decide +kernel) (by decide +kernel)
set_option maxRecDepth 20000 in
theorem gX7_stringInfo_X7_lengthOf : GoodIn wsX7_stringInfo (wsV RX7 96 RX7 yX7_lengthOf wsX7_lengthOf) := goodIn_app (goodIn_of _ (by decide +kernel)) ggX7_stringInfo_X7_lengthOf
set_option maxRecDepth 20000 in
theorem ggX7_stringInfo_X7_heardOf : GoodIn wsX7_stringInfo wsX7_heardOf := goodIn_r _ [47, 48, 49, 50, 3, 51, 52, 53, 54, 55, 12, 56, 57, 58, 59, 64, 65, 66, 67, 68, 69, 70, 71, 72, 73, 74, 75, 76] (by decide +kernel) (by decide +kernel)
set_option maxRecDepth 20000 in
theorem gX7_stringInfo_X7_heardOf : GoodIn wsX7_stringInfo (wsV RX7 118 RX7 yX7_heardOf wsX7_heardOf) := goodIn_app (goodIn_of _ (by decide +kernel)) ggX7_stringInfo_X7_heardOf
set_option maxRecDepth 20000 in
theorem ggX7_stringInfo_X7_sumOf : GoodIn wsX7_stringInfo wsX7_sumOf := goodIn_r _ [63, 52, 53, 54, 3, 55, 12, 64, 65, 66, 67, 68, 69, 70, 71, 72, 73, 74, 75, 76] (by decide +kernel) (by decide +kernel)
set_option maxRecDepth 20000 in
theorem gX7_stringInfo_X7_sumOf : GoodIn wsX7_stringInfo (wsV RX7 127 RX7 yX7_sumOf wsX7_sumOf) := goodIn_app (goodIn_of _ (by decide +kernel)) ggX7_stringInfo_X7_sumOf
theorem dX7_stringInfo_0 : decode cX7_stringInfo 0 = .ok (.iload_n 1, 1) := by decide +kernel
theorem dX7_stringInfo_1 : decode cX7_stringInfo 1 = .ok (.invokestatic 88, 3) := by decide +kernel
theorem dX7_stringInfo_4 : decode cX7_stringInfo 4 = .ok (.ifCond .eq 13, 3) := by decide +kernel
theorem dX7_stringInfo_7 : decode cX7_stringInfo 7 = .ok (.iload_n 2, 1) := by decide +kernel
theorem dX7_stringInfo_8 : decode cX7_stringInfo 8 = .ok (.iconst 0, 1) := by decide +kernel
theorem dX7_stringInfo_9 : decode cX7_stringInfo 9 = .ok (.bipush 8, 2) := by decide +kernel
theorem dX7_stringInfo_11 : decode cX7_stringInfo 11 = .ok (.invokestatic 30, 3) := by decide +kernel
theorem dX7_stringInfo_14 : decode cX7_stringInfo 14 = .ok (.ifCond .ne 5, 3) := by decide +kernel
theorem dX7_stringInfo_17 : decode cX7_stringInfo 17 = .ok (.iconst (-1), 1) := by decide +kernel
theorem dX7_stringInfo_18 : decode cX7_stringInfo 18 = .ok (.ireturn, 1) := by decide +kernel
theorem dX7_stringInfo_19 : decode cX7_stringInfo 19 = .ok (.iload_n 2, 1) := by decide +kernel
theorem dX7_stringInfo_20 : decode cX7_stringInfo 20 = .ok (.tableswitch 100 0 7 #[48, 48, 55, 61, 75, 81, 88, 94], 48) := by decide +kernel
theorem dX7_stringInfo_68 : decode cX7_stringInfo 68 = .ok (.aload_n 0, 1) := by decide +kernel
theorem dX7_stringInfo_69 : decode cX7_stringInfo 69 = .ok (.iload_n 1, 1) := by decide +kernel
theorem dX7_stringInfo_70 : decode cX7_stringInfo 70 = .ok (.iload_n 2, 1) := by decide +kernel
theorem dX7_stringInfo_71 : decode cX7_stringInfo 71 = .ok (.invokevirtual 48, 3) := by decide +kernel
theorem dX7_stringInfo_74 : decode cX7_stringInfo 74 = .ok (.ireturn, 1) := by decide +kernel
theorem dX7_stringInfo_75 : decode cX7_stringInfo 75 = .ok (.aload_n 0, 1) := by decide +kernel
theorem dX7_stringInfo_76 : decode cX7_stringInfo 76 = .ok (.iload_n 1, 1) := by decide +kernel
theorem dX7_stringInfo_77 : decode cX7_stringInfo 77 = .ok (.invokevirtual 55, 3) := by decide +kernel
theorem dX7_stringInfo_80 : decode cX7_stringInfo 80 = .ok (.ireturn, 1) := by decide +kernel
theorem dX7_stringInfo_81 : decode cX7_stringInfo 81 = .ok (.aload_n 0, 1) := by decide +kernel
theorem dX7_stringInfo_82 : decode cX7_stringInfo 82 = .ok (.iload_n 1, 1) := by decide +kernel
theorem dX7_stringInfo_83 : decode cX7_stringInfo 83 = .ok (.invokevirtual 124, 3) := by decide +kernel
theorem dX7_stringInfo_86 : decode cX7_stringInfo 86 = .ok (.ifCond .eq 7, 3) := by decide +kernel
theorem dX7_stringInfo_89 : decode cX7_stringInfo 89 = .ok (.iconst 1, 1) := by decide +kernel
theorem dX7_stringInfo_90 : decode cX7_stringInfo 90 = .ok (.goto 4, 3) := by decide +kernel
theorem dX7_stringInfo_93 : decode cX7_stringInfo 93 = .ok (.iconst 0, 1) := by decide +kernel
theorem dX7_stringInfo_94 : decode cX7_stringInfo 94 = .ok (.ireturn, 1) := by decide +kernel
theorem dX7_stringInfo_95 : decode cX7_stringInfo 95 = .ok (.aload_n 0, 1) := by decide +kernel
theorem dX7_stringInfo_96 : decode cX7_stringInfo 96 = .ok (.iload_n 1, 1) := by decide +kernel
theorem dX7_stringInfo_97 : decode cX7_stringInfo 97 = .ok (.invokevirtual 96, 3) := by decide +kernel
theorem dX7_stringInfo_100 : decode cX7_stringInfo 100 = .ok (.ireturn, 1) := by decide +kernel
theorem dX7_stringInfo_101 : decode cX7_stringInfo 101 = .ok (.aload_n 0, 1) := by decide +kernel
theorem dX7_stringInfo_102 : decode cX7_stringInfo 102 = .ok (.iload_n 1, 1) := by decide +kernel
theorem dX7_stringInfo_103 : decode cX7_stringInfo 103 = .ok (.iconst 2, 1) := by decide +kernel
theorem dX7_stringInfo_104 : decode cX7_stringInfo 104 = .ok (.invokevirtual 48, 3) := by decide +kernel
theorem dX7_stringInfo_107 : decode cX7_stringInfo 107 = .ok (.ireturn, 1) := by decide +kernel
theorem dX7_stringInfo_108 : decode cX7_stringInfo 108 = .ok (.aload_n 0, 1) := by decide +kernel
theorem dX7_stringInfo_109 : decode cX7_stringInfo 109 = .ok (.iload_n 1, 1) := by decide +kernel
theorem dX7_stringInfo_110 : decode cX7_stringInfo 110 = .ok (.invokevirtual 118, 3) := by decide +kernel
theorem dX7_stringInfo_113 : decode cX7_stringInfo 113 = .ok (.ireturn, 1) := by decide +kernel
theorem dX7_stringInfo_114 : decode cX7_stringInfo 114 = .ok (.aload_n 0, 1) := by decide +kernel
theorem dX7_stringInfo_115 : decode cX7_stringInfo 115 = .ok (.iload_n 1, 1) := by decide +kernel
theorem dX7_stringInfo_116 : decode cX7_stringInfo 116 = .ok (.invokevirtual 127, 3) := by decide +kernel
theorem dX7_stringInfo_119 : decode cX7_stringInfo 119 = .ok (.ireturn, 1) := by decide +kernel
theorem dX7_stringInfo_120 : decode cX7_stringInfo 120 = .ok (.aload_n 0, 1) := by decide +kernel
theorem dX7_stringInfo_121 : decode cX7_stringInfo 121 = .ok (.iload_n 1, 1) := by decide +kernel
theorem dX7_stringInfo_122 : decode cX7_stringInfo 122 = .ok (.iconst 3, 1) := by decide +kernel
theorem dX7_stringInfo_123 : decode cX7_stringInfo 123 = .ok (.invokevirtual 48, 3) := by decide +kernel
theorem dX7_stringInfo_126 : decode cX7_stringInfo 126 = .ok (.ireturn, 1) := by decide +kernel
set_option maxRecDepth 20000 in
theorem ggX7_pitch_X7_of : GoodIn wsX7_pitch wsX7_of := goodIn_r _ [5, 6, 34, 35, 36, 37, 38, 39, 40, 41, 42, 43, 44, 45, 46] (by decide +kernel) (by decide +kernel)
set_option maxRecDepth 20000 in
theorem gX7_pitch_X7_of : GoodIn wsX7_pitch (wsV RX7 48 RX7 yX7_of wsX7_of) := goodIn_app (goodIn_of _ (by decide +kernel)) ggX7_pitch_X7_of
set_option maxRecDepth 20000 in
theorem ggX7_pitch_X7_lengthOf : GoodIn wsX7_pitch wsX7_lengthOf := goodIn_r _ [10, 11, 12, 13, 4, 14, 15, 16, 17, 18, 1, 2, 3, 5, 6, 19, 20, 21, 22, 23, 24, 25, 26, 27, 28, 29, 30, 31, 32, 33, 34, 35, 36, 37, 38, 39, 40, 41, 42, 43, 44, 45, 46] (by decide +kernel) (by decide +kernel)
set_option maxRecDepth 20000 in
theorem gX7_pitch_X7_lengthOf : GoodIn wsX7_pitch (wsV RX7 96 RX7 yX7_lengthOf wsX7_lengthOf) := goodIn_app (goodIn_of _ (by decide +kernel)) ggX7_pitch_X7_lengthOf
theorem dX7_pitch_0 : decode cX7_pitch 0 = .ok (.iload_n 2, 1) := by decide +kernel
theorem dX7_pitch_1 : decode cX7_pitch 1 = .ok (.aload_n 0, 1) := by decide +kernel
theorem dX7_pitch_2 : decode cX7_pitch 2 = .ok (.iload_n 1, 1) := by decide +kernel
theorem dX7_pitch_3 : decode cX7_pitch 3 = .ok (.iconst 0, 1) := by decide +kernel
theorem dX7_pitch_4 : decode cX7_pitch 4 = .ok (.invokevirtual 48, 3) := by decide +kernel
theorem dX7_pitch_7 : decode cX7_pitch 7 = .ok (.imul, 1) := by decide +kernel
theorem dX7_pitch_8 : decode cX7_pitch 8 = .ok (.aload_n 0, 1) := by decide +kernel
theorem dX7_pitch_9 : decode cX7_pitch 9 = .ok (.iload_n 1, 1) := by decide +kernel
theorem dX7_pitch_10 : decode cX7_pitch 10 = .ok (.invokevirtual 96, 3) := by decide +kernel
theorem dX7_pitch_13 : decode cX7_pitch 13 = .ok (.idiv, 1) := by decide +kernel
theorem dX7_pitch_14 : decode cX7_pitch 14 = .ok (.ireturn, 1) := by decide +kernel
set_option maxRecDepth 20000 in
theorem ggX7_hasNode_X7_positionOf : GoodIn wsX7_hasNode wsX7_positionOf := goodIn_r _ [5, 6, 7, 8, 4, 9, 10, 11, 12, 13, 14, 15, 16, 17, 18, 19, 20, 21, 22, 23, 24, 25, 26, 27, 28, 29, 34, 35, 36, 37, 38, 39, 40, 41, 42, 43, 44, 45, 46] (by decide +kernel) (by decide +kernel)
set_option maxRecDepth 20000 in
theorem gX7_hasNode_X7_positionOf : GoodIn wsX7_hasNode (wsV RX7 58 RX7 yX7_positionOf wsX7_positionOf) := goodIn_app (goodIn_of _ (by decide +kernel)) ggX7_hasNode_X7_positionOf
set_option maxRecDepth 20000 in
theorem ggX7_hasNode_X7_lengthOf : GoodIn wsX7_hasNode wsX7_lengthOf := goodIn_r _ [33, 1, 2, 3, 4, 5, 6, 7, 8, 9, 10, 11, 12, 13, 14, 15, 16, 17, 18, 19, 20, 21, 22, 23, 24, 25, 26, 27, 28, 29, 34, 35, 36, 37, 38, 39, 40, 41, 42, 43, 44, 45, 46] (by decide +kernel) (by decide +kernel)
set_option maxRecDepth 20000 in
theorem gX7_hasNode_X7_lengthOf : GoodIn wsX7_hasNode (wsV RX7 96 RX7 yX7_lengthOf wsX7_lengthOf) := goodIn_app (goodIn_of _ (by decide +kernel)) ggX7_hasNode_X7_lengthOf
theorem dX7_hasNode_0 : decode cX7_hasNode 0 = .ok (.iload_n 2, 1) := by decide +kernel
theorem dX7_hasNode_1 : decode cX7_hasNode 1 = .ok (.iload_n 3, 1) := by decide +kernel
theorem dX7_hasNode_2 : decode cX7_hasNode 2 = .ok (.aload_n 0, 1) := by decide +kernel
theorem dX7_hasNode_3 : decode cX7_hasNode 3 = .ok (.iload_n 1, 1) := by decide +kernel
theorem dX7_hasNode_4 : decode cX7_hasNode 4 = .ok (.invokevirtual 58, 3) := by decide +kernel
theorem dX7_hasNode_7 : decode cX7_hasNode 7 = .ok (.isub, 1) := by decide +kernel
theorem dX7_hasNode_8 : decode cX7_hasNode 8 = .ok (.imul, 1) := by decide +kernel
theorem dX7_hasNode_9 : decode cX7_hasNode 9 = .ok (.aload_n 0, 1) := by decide +kernel
theorem dX7_hasNode_10 : decode cX7_hasNode 10 = .ok (.iload_n 1, 1) := by decide +kernel
theorem dX7_hasNode_11 : decode cX7_hasNode 11 = .ok (.invokevirtual 96, 3) := by decide +kernel
theorem dX7_hasNode_14 : decode cX7_hasNode 14 = .ok (.irem, 1) := by decide +kernel
theorem dX7_hasNode_15 : decode cX7_hasNode 15 = .ok (.ifCond .ne 7, 3) := by decide +kernel
theorem dX7_hasNode_18 : decode cX7_hasNode 18 = .ok (.iconst 1, 1) := by decide +kernel
theorem dX7_hasNode_19 : decode cX7_hasNode 19 = .ok (.goto 4, 3) := by decide +kernel
theorem dX7_hasNode_22 : decode cX7_hasNode 22 = .ok (.iconst 0, 1) := by decide +kernel
theorem dX7_hasNode_23 : decode cX7_hasNode 23 = .ok (.ireturn, 1) := by decide +kernel
set_option maxRecDepth 20000 in
theorem ggX7_nodes_X7_positionOf : GoodIn wsX7_nodes wsX7_positionOf := goodIn_r _ [5, 6, 7, 8, 4, 9, 10, 11, 12, 13, 14, 15, 16, 17, 18, 19, 20, 21, 22, 23, 24, 25, 26, 27, 28, 29, 38, 39, 40, 41, 42, 43, 44, 45, 46, 47, 48, 49, 50] (by decide +kernel) (by decide +kernel)
set_option maxRecDepth 20000 in
theorem gX7_nodes_X7_positionOf : GoodIn wsX7_nodes (wsV RX7 58 RX7 yX7_positionOf wsX7_positionOf) := goodIn_app (goodIn_of _ (by decide +kernel)) ggX7_nodes_X7_positionOf
set_option maxRecDepth 20000 in
theorem ggX7_nodes_X7_hasNode : GoodIn wsX7_nodes wsX7_hasNode := goodIn_r _ [33, 1, 2, 3, 4, 5, 6, 7, 8, 9, 10, 11, 12, 13, 14, 15, 16, 17, 18, 19, 20, 21, 22, 23, 24, 25, 26, 27, 28, 29, 34, 35, 36, 37, 38, 39, 40, 41, 42, 43, 44, 45, 46, 47, 48, 49, 50] (by decide +kernel) (by decide +kernel)
set_option maxRecDepth 20000 in
theorem gX7_nodes_X7_hasNode : GoodIn wsX7_nodes (wsV RX7 130 RX7 yX7_hasNode wsX7_hasNode) := goodIn_app (goodIn_of _ (by decide +kernel)) ggX7_nodes_X7_hasNode
theorem dX7_nodes_0 : decode cX7_nodes 0 = .ok (.iconst 0, 1) := by decide +kernel
theorem dX7_nodes_1 : decode cX7_nodes 1 = .ok (.istore_n 3, 1) := by decide +kernel
theorem dX7_nodes_2 : decode cX7_nodes 2 = .ok (.aload_n 0, 1) := by decide +kernel
theorem dX7_nodes_3 : decode cX7_nodes 3 = .ok (.iload_n 1, 1) := by decide +kernel
theorem dX7_nodes_4 : decode cX7_nodes 4 = .ok (.invokevirtual 58, 3) := by decide +kernel
theorem dX7_nodes_7 : decode cX7_nodes 7 = .ok (.iconst 1, 1) := by decide +kernel
theorem dX7_nodes_8 : decode cX7_nodes 8 = .ok (.iadd, 1) := by decide +kernel
theorem dX7_nodes_9 : decode cX7_nodes 9 = .ok (.istore 4, 2) := by decide +kernel
theorem dX7_nodes_11 : decode cX7_nodes 11 = .ok (.iload 4, 2) := by decide +kernel
theorem dX7_nodes_13 : decode cX7_nodes 13 = .ok (.sipush 2520, 3) := by decide +kernel
theorem dX7_nodes_16 : decode cX7_nodes 16 = .ok (.if_icmp .ge 28, 3) := by decide +kernel
theorem dX7_nodes_19 : decode cX7_nodes 19 = .ok (.iload_n 3, 1) := by decide +kernel
theorem dX7_nodes_20 : decode cX7_nodes 20 = .ok (.aload_n 0, 1) := by decide +kernel
theorem dX7_nodes_21 : decode cX7_nodes 21 = .ok (.iload_n 1, 1) := by decide +kernel
theorem dX7_nodes_22 : decode cX7_nodes 22 = .ok (.iload_n 2, 1) := by decide +kernel
theorem dX7_nodes_23 : decode cX7_nodes 23 = .ok (.iload 4, 2) := by decide +kernel
theorem dX7_nodes_25 : decode cX7_nodes 25 = .ok (.invokevirtual 130, 3) := by decide +kernel
theorem dX7_nodes_28 : decode cX7_nodes 28 = .ok (.ifCond .eq 7, 3) := by decide +kernel
theorem dX7_nodes_31 : decode cX7_nodes 31 = .ok (.iconst 1, 1) := by decide +kernel
theorem dX7_nodes_32 : decode cX7_nodes 32 = .ok (.goto 4, 3) := by decide +kernel
theorem dX7_nodes_35 : decode cX7_nodes 35 = .ok (.iconst 0, 1) := by decide +kernel
theorem dX7_nodes_36 : decode cX7_nodes 36 = .ok (.iadd, 1) := by decide +kernel
theorem dX7_nodes_37 : decode cX7_nodes 37 = .ok (.istore_n 3, 1) := by decide +kernel
theorem dX7_nodes_38 : decode cX7_nodes 38 = .ok (.iinc 4 1, 3) := by decide +kernel
theorem dX7_nodes_41 : decode cX7_nodes 41 = .ok (.goto (-30), 3) := by decide +kernel
theorem dX7_nodes_44 : decode cX7_nodes 44 = .ok (.iload_n 3, 1) := by decide +kernel
theorem dX7_nodes_45 : decode cX7_nodes 45 = .ok (.ireturn, 1) := by decide +kernel
set_option maxRecDepth 20000 in
theorem ggX7_modeInfo_X7_isString : GoodIn wsX7_modeInfo wsX7_isString := goodIn_r _ [4, 5, 6, 3, 7] (by decide +kernel) (by decide +kernel)
set_option maxRecDepth 20000 in
theorem gX7_modeInfo_X7_isString : GoodIn wsX7_modeInfo (va_wsS RX7 88 yX7_isString wsX7_isString) := goodIn_app (goodIn_of _ (by decide +kernel)) ggX7_modeInfo_X7_isString
set_option maxRecDepth 20000 in
theorem ggX7_modeInfo_X7_isMode : GoodIn wsX7_modeInfo wsX7_isMode := goodIn_r _ [10, 5, 6, 3, 7] (by decide +kernel) (by decide +kernel)
set_option maxRecDepth 20000 in
theorem gX7_modeInfo_X7_isMode : GoodIn wsX7_modeInfo (va_wsS RX7 133 yX7_isMode wsX7_isMode) := goodIn_app (goodIn_of _ (by decide +kernel)) ggX7_modeInfo_X7_isMode
set_option maxRecDepth 20000 in
theorem ggX7_modeInfo_X7_in : GoodIn wsX7_modeInfo wsX7_in := goodIn_r _ [7] (by decide +kernel) (by decide +kernel)
set_option maxRecDepth 20000 in
theorem gX7_modeInfo_X7_in : GoodIn wsX7_modeInfo (va_wsS RX7 30 yX7_in wsX7_in) := goodIn_app (goodIn_of _ (by decide +kernel)) ggX7_modeInfo_X7_in
set_option maxRecDepth 20000 in
theorem ggX7_modeInfo_X7_loud : GoodIn wsX7_modeInfo wsX7_loud := goodIn_r _ [14, 15, 59, 60, 61, 62, 63, 64, 65, 66, 67, 68, 69, 70, 71] (by decide +kernel) (by decide +kernel)
set_option maxRecDepth 20000 in
theorem gX7_modeInfo_X7_loud : GoodIn wsX7_modeInfo (wsV RX7 99 RX7 yX7_loud wsX7_loud) := goodIn_app (goodIn_of _ (by decide +kernel)) ggX7_modeInfo_X7_loud
set_option maxRecDepth 20000 in
theorem ggX7_modeInfo_X7_pitch : GoodIn wsX7_modeInfo wsX7_pitch := goodIn_r _ [19, 20, 21, 22, 3, 23, 15, 24, 25, 26, 27, 28, 29, 30, 31, 32, 33, 34, 35, 36, 37, 38, 39, 40, 41, 42, 43, 44, 45, 46, 47, 48, 49, 50, 59, 60, 61, 62, 63, 64, 65, 66, 67, 68, 69, 70, 71] (by decide +kernel) (by decide +kernel)
set_option maxRecDepth 20000 in
theorem gX7_modeInfo_X7_pitch : GoodIn wsX7_modeInfo (wsV RX7 136 RX7 yX7_pitch wsX7_pitch) := goodIn_app (goodIn_of _ (by decide +kernel)) ggX7_modeInfo_X7_pitch
set_option maxRecDepth 20000 in
theorem ggX7_modeInfo_X7_nodes : GoodIn wsX7_modeInfo wsX7_nodes := goodIn_r _ [54, 28, 29, 30, 3, 31, 32, 33, 34, 35, 20, 21, 22, 23, 15, 36, 37, 38, 39, 40, 41, 42, 43, 44, 45, 46, 47, 48, 49, 50, 55, 56, 57, 58, 24, 25, 26, 27, 59, 60, 61, 62, 63, 64, 65, 66, 67, 68, 69, 70, 71] (by decide +kernel) (by decide +kernel)
set_option maxRecDepth 20000 in
theorem gX7_modeInfo_X7_nodes : GoodIn wsX7_modeInfo (wsV RX7 139 RX7 yX7_nodes wsX7_nodes) := goodIn_app (goodIn_of _ (by decide +kernel)) ggX7_modeInfo_X7_nodes
theorem dX7_modeInfo_0 : decode cX7_modeInfo 0 = .ok (.iload_n 1, 1) := by decide +kernel
theorem dX7_modeInfo_1 : decode cX7_modeInfo 1 = .ok (.invokestatic 88, 3) := by decide +kernel
theorem dX7_modeInfo_4 : decode cX7_modeInfo 4 = .ok (.ifCond .eq 19, 3) := by decide +kernel
theorem dX7_modeInfo_7 : decode cX7_modeInfo 7 = .ok (.iload_n 2, 1) := by decide +kernel
theorem dX7_modeInfo_8 : decode cX7_modeInfo 8 = .ok (.invokestatic 133, 3) := by decide +kernel
theorem dX7_modeInfo_11 : decode cX7_modeInfo 11 = .ok (.ifCond .eq 12, 3) := by decide +kernel
theorem dX7_modeInfo_14 : decode cX7_modeInfo 14 = .ok (.iload_n 3, 1) := by decide +kernel
theorem dX7_modeInfo_15 : decode cX7_modeInfo 15 = .ok (.iconst 0, 1) := by decide +kernel
theorem dX7_modeInfo_16 : decode cX7_modeInfo 16 = .ok (.iconst 2, 1) := by decide +kernel
theorem dX7_modeInfo_17 : decode cX7_modeInfo 17 = .ok (.invokestatic 30, 3) := by decide +kernel
theorem dX7_modeInfo_20 : decode cX7_modeInfo 20 = .ok (.ifCond .ne 5, 3) := by decide +kernel
theorem dX7_modeInfo_23 : decode cX7_modeInfo 23 = .ok (.iconst (-1), 1) := by decide +kernel
theorem dX7_modeInfo_24 : decode cX7_modeInfo 24 = .ok (.ireturn, 1) := by decide +kernel
theorem dX7_modeInfo_25 : decode cX7_modeInfo 25 = .ok (.iload_n 3, 1) := by decide +kernel
theorem dX7_modeInfo_26 : decode cX7_modeInfo 26 = .ok (.ifCond .ne 12, 3) := by decide +kernel
theorem dX7_modeInfo_29 : decode cX7_modeInfo 29 = .ok (.aload_n 0, 1) := by decide +kernel
theorem dX7_modeInfo_30 : decode cX7_modeInfo 30 = .ok (.iload_n 1, 1) := by decide +kernel
theorem dX7_modeInfo_31 : decode cX7_modeInfo 31 = .ok (.iload_n 2, 1) := by decide +kernel
theorem dX7_modeInfo_32 : decode cX7_modeInfo 32 = .ok (.invokevirtual 99, 3) := by decide +kernel
theorem dX7_modeInfo_35 : decode cX7_modeInfo 35 = .ok (.goto 23, 3) := by decide +kernel
theorem dX7_modeInfo_38 : decode cX7_modeInfo 38 = .ok (.iload_n 3, 1) := by decide +kernel
theorem dX7_modeInfo_39 : decode cX7_modeInfo 39 = .ok (.iconst 1, 1) := by decide +kernel
theorem dX7_modeInfo_40 : decode cX7_modeInfo 40 = .ok (.if_icmp .ne 12, 3) := by decide +kernel
theorem dX7_modeInfo_43 : decode cX7_modeInfo 43 = .ok (.aload_n 0, 1) := by decide +kernel
theorem dX7_modeInfo_44 : decode cX7_modeInfo 44 = .ok (.iload_n 1, 1) := by decide +kernel
theorem dX7_modeInfo_45 : decode cX7_modeInfo 45 = .ok (.iload_n 2, 1) := by decide +kernel
theorem dX7_modeInfo_46 : decode cX7_modeInfo 46 = .ok (.invokevirtual 136, 3) := by decide +kernel
theorem dX7_modeInfo_49 : decode cX7_modeInfo 49 = .ok (.goto 9, 3) := by decide +kernel
theorem dX7_modeInfo_52 : decode cX7_modeInfo 52 = .ok (.aload_n 0, 1) := by decide +kernel
theorem dX7_modeInfo_53 : decode cX7_modeInfo 53 = .ok (.iload_n 1, 1) := by decide +kernel
theorem dX7_modeInfo_54 : decode cX7_modeInfo 54 = .ok (.iload_n 2, 1) := by decide +kernel
theorem dX7_modeInfo_55 : decode cX7_modeInfo 55 = .ok (.invokevirtual 139, 3) := by decide +kernel
theorem dX7_modeInfo_58 : decode cX7_modeInfo 58 = .ok (.ireturn, 1) := by decide +kernel
set_option maxRecDepth 20000 in
theorem ggX7_isPlace_X7_isString : GoodIn wsX7_isPlace wsX7_isString := goodIn_r _ [4, 5, 6, 3, 7] (by decide +kernel) (by decide +kernel)
set_option maxRecDepth 20000 in
theorem gX7_isPlace_X7_isString : GoodIn wsX7_isPlace (va_wsS RX7 88 yX7_isString wsX7_isString) := goodIn_app (goodIn_of _ (by decide +kernel)) ggX7_isPlace_X7_isString
set_option maxRecDepth 20000 in
theorem ggX7_isPlace_X7_isMode : GoodIn wsX7_isPlace wsX7_isMode := goodIn_r _ [10, 5, 6, 3, 7] (by decide +kernel) (by decide +kernel)
set_option maxRecDepth 20000 in
theorem gX7_isPlace_X7_isMode : GoodIn wsX7_isPlace (va_wsS RX7 133 yX7_isMode wsX7_isMode) := goodIn_app (goodIn_of _ (by decide +kernel)) ggX7_isPlace_X7_isMode
set_option maxRecDepth 20000 in
theorem ggX7_isPlace_X7_in : GoodIn wsX7_isPlace wsX7_in := goodIn_r _ [7] (by decide +kernel) (by decide +kernel)
set_option maxRecDepth 20000 in
theorem gX7_isPlace_X7_in : GoodIn wsX7_isPlace (va_wsS RX7 30 yX7_in wsX7_in) := goodIn_app (goodIn_of _ (by decide +kernel)) ggX7_isPlace_X7_in
theorem dX7_isPlace_0 : decode cX7_isPlace 0 = .ok (.iload_n 0, 1) := by decide +kernel
theorem dX7_isPlace_1 : decode cX7_isPlace 1 = .ok (.invokestatic 88, 3) := by decide +kernel
theorem dX7_isPlace_4 : decode cX7_isPlace 4 = .ok (.ifCond .eq 25, 3) := by decide +kernel
theorem dX7_isPlace_7 : decode cX7_isPlace 7 = .ok (.iload_n 1, 1) := by decide +kernel
theorem dX7_isPlace_8 : decode cX7_isPlace 8 = .ok (.invokestatic 133, 3) := by decide +kernel
theorem dX7_isPlace_11 : decode cX7_isPlace 11 = .ok (.ifCond .eq 18, 3) := by decide +kernel
theorem dX7_isPlace_14 : decode cX7_isPlace 14 = .ok (.iload_n 2, 1) := by decide +kernel
theorem dX7_isPlace_15 : decode cX7_isPlace 15 = .ok (.iconst 1, 1) := by decide +kernel
theorem dX7_isPlace_16 : decode cX7_isPlace 16 = .ok (.sipush 2519, 3) := by decide +kernel
theorem dX7_isPlace_19 : decode cX7_isPlace 19 = .ok (.invokestatic 30, 3) := by decide +kernel
theorem dX7_isPlace_22 : decode cX7_isPlace 22 = .ok (.ifCond .eq 7, 3) := by decide +kernel
theorem dX7_isPlace_25 : decode cX7_isPlace 25 = .ok (.iconst 1, 1) := by decide +kernel
theorem dX7_isPlace_26 : decode cX7_isPlace 26 = .ok (.goto 4, 3) := by decide +kernel
theorem dX7_isPlace_29 : decode cX7_isPlace 29 = .ok (.iconst 0, 1) := by decide +kernel
theorem dX7_isPlace_30 : decode cX7_isPlace 30 = .ok (.ireturn, 1) := by decide +kernel
set_option maxRecDepth 20000 in
theorem ggX7_node_X7_isPlace : GoodIn wsX7_node wsX7_isPlace := goodIn_r _ [4, 5, 6, 3, 7, 8, 9, 10, 11, 12, 13] (by decide +kernel) (by decide +kernel)
set_option maxRecDepth 20000 in
theorem gX7_node_X7_isPlace : GoodIn wsX7_node (va_wsS RX7 142 yX7_isPlace wsX7_isPlace) := goodIn_app (goodIn_of _ (by decide +kernel)) ggX7_node_X7_isPlace
set_option maxRecDepth 20000 in
theorem ggX7_node_X7_positionOf : GoodIn wsX7_node wsX7_positionOf := goodIn_r _ [17, 18, 19, 20, 3, 21, 22, 23, 24, 25, 26, 27, 28, 29, 30, 31, 32, 33, 34, 35, 36, 37, 38, 39, 40, 41, 50, 51, 52, 53, 54, 55, 56, 57, 58, 59, 60, 61, 62] (by decide +kernel) (by decide +kernel)
set_option maxRecDepth 20000 in
theorem gX7_node_X7_positionOf : GoodIn wsX7_node (wsV RX7 58 RX7 yX7_positionOf wsX7_positionOf) := goodIn_app (goodIn_of _ (by decide +kernel)) ggX7_node_X7_positionOf
set_option maxRecDepth 20000 in
theorem ggX7_node_X7_hasNode : GoodIn wsX7_node wsX7_hasNode := goodIn_r _ [45, 14, 15, 16, 3, 17, 18, 19, 20, 21, 22, 23, 24, 25, 26, 27, 28, 29, 30, 31, 32, 33, 34, 35, 36, 37, 38, 39, 40, 41, 46, 47, 48, 49, 50, 51, 52, 53, 54, 55, 56, 57, 58, 59, 60, 61, 62] (by decide +kernel) (by decide +kernel)
set_option maxRecDepth 20000 in
theorem gX7_node_X7_hasNode : GoodIn wsX7_node (wsV RX7 130 RX7 yX7_hasNode wsX7_hasNode) := goodIn_app (goodIn_of _ (by decide +kernel)) ggX7_node_X7_hasNode
theorem dX7_node_0 : decode cX7_node 0 = .ok (.iload_n 1, 1) := by decide +kernel
theorem dX7_node_1 : decode cX7_node 1 = .ok (.iload_n 2, 1) := by decide +kernel
theorem dX7_node_2 : decode cX7_node 2 = .ok (.iload_n 3, 1) := by decide +kernel
theorem dX7_node_3 : decode cX7_node 3 = .ok (.invokestatic 142, 3) := by decide +kernel
theorem dX7_node_6 : decode cX7_node 6 = .ok (.ifCond .ne 5, 3) := by decide +kernel
theorem dX7_node_9 : decode cX7_node 9 = .ok (.iconst (-1), 1) := by decide +kernel
theorem dX7_node_10 : decode cX7_node 10 = .ok (.ireturn, 1) := by decide +kernel
theorem dX7_node_11 : decode cX7_node 11 = .ok (.iload_n 3, 1) := by decide +kernel
theorem dX7_node_12 : decode cX7_node 12 = .ok (.aload_n 0, 1) := by decide +kernel
theorem dX7_node_13 : decode cX7_node 13 = .ok (.iload_n 1, 1) := by decide +kernel
theorem dX7_node_14 : decode cX7_node 14 = .ok (.invokevirtual 58, 3) := by decide +kernel
theorem dX7_node_17 : decode cX7_node 17 = .ok (.if_icmp .gt 6, 3) := by decide +kernel
theorem dX7_node_20 : decode cX7_node 20 = .ok (.bipush (-4), 2) := by decide +kernel
theorem dX7_node_22 : decode cX7_node 22 = .ok (.ireturn, 1) := by decide +kernel
theorem dX7_node_23 : decode cX7_node 23 = .ok (.aload_n 0, 1) := by decide +kernel
theorem dX7_node_24 : decode cX7_node 24 = .ok (.iload_n 1, 1) := by decide +kernel
theorem dX7_node_25 : decode cX7_node 25 = .ok (.iload_n 2, 1) := by decide +kernel
theorem dX7_node_26 : decode cX7_node 26 = .ok (.iload_n 3, 1) := by decide +kernel
theorem dX7_node_27 : decode cX7_node 27 = .ok (.invokevirtual 130, 3) := by decide +kernel
theorem dX7_node_30 : decode cX7_node 30 = .ok (.ifCond .eq 7, 3) := by decide +kernel
theorem dX7_node_33 : decode cX7_node 33 = .ok (.iconst 1, 1) := by decide +kernel
theorem dX7_node_34 : decode cX7_node 34 = .ok (.goto 4, 3) := by decide +kernel
theorem dX7_node_37 : decode cX7_node 37 = .ok (.iconst 0, 1) := by decide +kernel
theorem dX7_node_38 : decode cX7_node 38 = .ok (.ireturn, 1) := by decide +kernel
theorem dX7_divisor_0 : decode cX7_divisor 0 = .ok (.iload_n 0, 1) := by decide +kernel
theorem dX7_divisor_1 : decode cX7_divisor 1 = .ok (.istore_n 2, 1) := by decide +kernel
theorem dX7_divisor_2 : decode cX7_divisor 2 = .ok (.iload_n 1, 1) := by decide +kernel
theorem dX7_divisor_3 : decode cX7_divisor 3 = .ok (.istore_n 3, 1) := by decide +kernel
theorem dX7_divisor_4 : decode cX7_divisor 4 = .ok (.iload_n 3, 1) := by decide +kernel
theorem dX7_divisor_5 : decode cX7_divisor 5 = .ok (.ifCond .le 16, 3) := by decide +kernel
theorem dX7_divisor_8 : decode cX7_divisor 8 = .ok (.iload_n 2, 1) := by decide +kernel
theorem dX7_divisor_9 : decode cX7_divisor 9 = .ok (.iload_n 3, 1) := by decide +kernel
theorem dX7_divisor_10 : decode cX7_divisor 10 = .ok (.irem, 1) := by decide +kernel
theorem dX7_divisor_11 : decode cX7_divisor 11 = .ok (.istore 4, 2) := by decide +kernel
theorem dX7_divisor_13 : decode cX7_divisor 13 = .ok (.iload_n 3, 1) := by decide +kernel
theorem dX7_divisor_14 : decode cX7_divisor 14 = .ok (.istore_n 2, 1) := by decide +kernel
theorem dX7_divisor_15 : decode cX7_divisor 15 = .ok (.iload 4, 2) := by decide +kernel
theorem dX7_divisor_17 : decode cX7_divisor 17 = .ok (.istore_n 3, 1) := by decide +kernel
theorem dX7_divisor_18 : decode cX7_divisor 18 = .ok (.goto (-14), 3) := by decide +kernel
theorem dX7_divisor_21 : decode cX7_divisor 21 = .ok (.iload_n 2, 1) := by decide +kernel
theorem dX7_divisor_22 : decode cX7_divisor 22 = .ok (.ireturn, 1) := by decide +kernel
set_option maxRecDepth 20000 in
theorem ggX7_nodeAgain_X7_isPlace : GoodIn wsX7_nodeAgain wsX7_isPlace := goodIn_r _ [4, 5, 6, 3, 7, 8, 9, 10, 11, 12, 13] (by decide +kernel) (by decide +kernel)
set_option maxRecDepth 20000 in
theorem gX7_nodeAgain_X7_isPlace : GoodIn wsX7_nodeAgain (va_wsS RX7 142 yX7_isPlace wsX7_isPlace) := goodIn_app (goodIn_of _ (by decide +kernel)) ggX7_nodeAgain_X7_isPlace
set_option maxRecDepth 20000 in
theorem ggX7_nodeAgain_X7_positionOf : GoodIn wsX7_nodeAgain wsX7_positionOf := goodIn_r _ [17, 18, 19, 20, 3, 21, 22, 23, 24, 25, 26, 27, 28, 29, 30, 31, 32, 33, 34, 35, 36, 37, 38, 39, 40, 41, 49, 50, 51, 52, 53, 54, 55, 56, 57, 58, 59, 60, 61] (by decide +kernel) (by decide +kernel)
set_option maxRecDepth 20000 in
theorem gX7_nodeAgain_X7_positionOf : GoodIn wsX7_nodeAgain (wsV RX7 58 RX7 yX7_positionOf wsX7_positionOf) := goodIn_app (goodIn_of _ (by decide +kernel)) ggX7_nodeAgain_X7_positionOf
set_option maxRecDepth 20000 in
theorem ggX7_nodeAgain_X7_lengthOf : GoodIn wsX7_nodeAgain wsX7_lengthOf := goodIn_r _ [45, 14, 15, 16, 3, 17, 18, 19, 20, 21, 22, 23, 24, 25, 26, 27, 28, 29, 30, 31, 32, 33, 34, 35, 36, 37, 38, 39, 40, 41, 49, 50, 51, 52, 53, 54, 55, 56, 57, 58, 59, 60, 61] (by decide +kernel) (by decide +kernel)
set_option maxRecDepth 20000 in
theorem gX7_nodeAgain_X7_lengthOf : GoodIn wsX7_nodeAgain (wsV RX7 96 RX7 yX7_lengthOf wsX7_lengthOf) := goodIn_app (goodIn_of _ (by decide +kernel)) ggX7_nodeAgain_X7_lengthOf
set_option maxRecDepth 20000 in
theorem ggX7_nodeAgain_X7_divisor : GoodIn wsX7_nodeAgain wsX7_divisor := goodIn_r _ [48] (by decide +kernel) (by decide +kernel)
set_option maxRecDepth 20000 in
theorem gX7_nodeAgain_X7_divisor : GoodIn wsX7_nodeAgain (va_wsS RX7 145 yX7_divisor wsX7_divisor) := goodIn_app (goodIn_of _ (by decide +kernel)) ggX7_nodeAgain_X7_divisor
theorem dX7_nodeAgain_0 : decode cX7_nodeAgain 0 = .ok (.iload_n 1, 1) := by decide +kernel
theorem dX7_nodeAgain_1 : decode cX7_nodeAgain 1 = .ok (.iload_n 2, 1) := by decide +kernel
theorem dX7_nodeAgain_2 : decode cX7_nodeAgain 2 = .ok (.iload_n 3, 1) := by decide +kernel
theorem dX7_nodeAgain_3 : decode cX7_nodeAgain 3 = .ok (.invokestatic 142, 3) := by decide +kernel
theorem dX7_nodeAgain_6 : decode cX7_nodeAgain 6 = .ok (.ifCond .ne 5, 3) := by decide +kernel
theorem dX7_nodeAgain_9 : decode cX7_nodeAgain 9 = .ok (.iconst (-1), 1) := by decide +kernel
theorem dX7_nodeAgain_10 : decode cX7_nodeAgain 10 = .ok (.ireturn, 1) := by decide +kernel
theorem dX7_nodeAgain_11 : decode cX7_nodeAgain 11 = .ok (.iload_n 3, 1) := by decide +kernel
theorem dX7_nodeAgain_12 : decode cX7_nodeAgain 12 = .ok (.aload_n 0, 1) := by decide +kernel
theorem dX7_nodeAgain_13 : decode cX7_nodeAgain 13 = .ok (.iload_n 1, 1) := by decide +kernel
theorem dX7_nodeAgain_14 : decode cX7_nodeAgain 14 = .ok (.invokevirtual 58, 3) := by decide +kernel
theorem dX7_nodeAgain_17 : decode cX7_nodeAgain 17 = .ok (.isub, 1) := by decide +kernel
theorem dX7_nodeAgain_18 : decode cX7_nodeAgain 18 = .ok (.istore 4, 2) := by decide +kernel
theorem dX7_nodeAgain_20 : decode cX7_nodeAgain 20 = .ok (.iload 4, 2) := by decide +kernel
theorem dX7_nodeAgain_22 : decode cX7_nodeAgain 22 = .ok (.ifCond .gt 6, 3) := by decide +kernel
theorem dX7_nodeAgain_25 : decode cX7_nodeAgain 25 = .ok (.bipush (-4), 2) := by decide +kernel
theorem dX7_nodeAgain_27 : decode cX7_nodeAgain 27 = .ok (.ireturn, 1) := by decide +kernel
theorem dX7_nodeAgain_28 : decode cX7_nodeAgain 28 = .ok (.aload_n 0, 1) := by decide +kernel
theorem dX7_nodeAgain_29 : decode cX7_nodeAgain 29 = .ok (.iload_n 1, 1) := by decide +kernel
theorem dX7_nodeAgain_30 : decode cX7_nodeAgain 30 = .ok (.invokevirtual 96, 3) := by decide +kernel
theorem dX7_nodeAgain_33 : decode cX7_nodeAgain 33 = .ok (.istore 5, 2) := by decide +kernel
theorem dX7_nodeAgain_35 : decode cX7_nodeAgain 35 = .ok (.iload_n 2, 1) := by decide +kernel
theorem dX7_nodeAgain_36 : decode cX7_nodeAgain 36 = .ok (.iload 5, 2) := by decide +kernel
theorem dX7_nodeAgain_38 : decode cX7_nodeAgain 38 = .ok (.iload 5, 2) := by decide +kernel
theorem dX7_nodeAgain_40 : decode cX7_nodeAgain 40 = .ok (.iload 4, 2) := by decide +kernel
theorem dX7_nodeAgain_42 : decode cX7_nodeAgain 42 = .ok (.invokestatic 145, 3) := by decide +kernel
theorem dX7_nodeAgain_45 : decode cX7_nodeAgain 45 = .ok (.idiv, 1) := by decide +kernel
theorem dX7_nodeAgain_46 : decode cX7_nodeAgain 46 = .ok (.irem, 1) := by decide +kernel
theorem dX7_nodeAgain_47 : decode cX7_nodeAgain 47 = .ok (.ifCond .ne 7, 3) := by decide +kernel
theorem dX7_nodeAgain_50 : decode cX7_nodeAgain 50 = .ok (.iconst 1, 1) := by decide +kernel
theorem dX7_nodeAgain_51 : decode cX7_nodeAgain 51 = .ok (.goto 4, 3) := by decide +kernel
theorem dX7_nodeAgain_54 : decode cX7_nodeAgain 54 = .ok (.iconst 0, 1) := by decide +kernel
theorem dX7_nodeAgain_55 : decode cX7_nodeAgain 55 = .ok (.ireturn, 1) := by decide +kernel
set_option maxRecDepth 20000 in
theorem ggX7_canBe_X7_in : GoodIn wsX7_canBe wsX7_in := goodIn_r _ [6] (by decide +kernel) (by decide +kernel)
set_option maxRecDepth 20000 in
theorem gX7_canBe_X7_in : GoodIn wsX7_canBe (va_wsS RX7 30 yX7_in wsX7_in) := goodIn_app (goodIn_of _ (by decide +kernel)) ggX7_canBe_X7_in
theorem dX7_canBe_0 : decode cX7_canBe 0 = .ok (.iload_n 0, 1) := by decide +kernel
theorem dX7_canBe_1 : decode cX7_canBe 1 = .ok (.tableswitch 56 0 3 #[31, 40, 31, 48], 31) := by decide +kernel
theorem dX7_canBe_32 : decode cX7_canBe 32 = .ok (.iload_n 1, 1) := by decide +kernel
theorem dX7_canBe_33 : decode cX7_canBe 33 = .ok (.iconst 0, 1) := by decide +kernel
theorem dX7_canBe_34 : decode cX7_canBe 34 = .ok (.sipush 1000, 3) := by decide +kernel
theorem dX7_canBe_37 : decode cX7_canBe 37 = .ok (.invokestatic 30, 3) := by decide +kernel
theorem dX7_canBe_40 : decode cX7_canBe 40 = .ok (.ireturn, 1) := by decide +kernel
theorem dX7_canBe_41 : decode cX7_canBe 41 = .ok (.iload_n 1, 1) := by decide +kernel
theorem dX7_canBe_42 : decode cX7_canBe 42 = .ok (.iconst 0, 1) := by decide +kernel
theorem dX7_canBe_43 : decode cX7_canBe 43 = .ok (.bipush 100, 2) := by decide +kernel
theorem dX7_canBe_45 : decode cX7_canBe 45 = .ok (.invokestatic 30, 3) := by decide +kernel
theorem dX7_canBe_48 : decode cX7_canBe 48 = .ok (.ireturn, 1) := by decide +kernel
theorem dX7_canBe_49 : decode cX7_canBe 49 = .ok (.iload_n 1, 1) := by decide +kernel
theorem dX7_canBe_50 : decode cX7_canBe 50 = .ok (.iconst 1, 1) := by decide +kernel
theorem dX7_canBe_51 : decode cX7_canBe 51 = .ok (.ldc 22, 2) := by decide +kernel
theorem dX7_canBe_53 : decode cX7_canBe 53 = .ok (.invokestatic 30, 3) := by decide +kernel
theorem dX7_canBe_56 : decode cX7_canBe 56 = .ok (.ireturn, 1) := by decide +kernel
theorem dX7_canBe_57 : decode cX7_canBe 57 = .ok (.iload_n 0, 1) := by decide +kernel
theorem dX7_canBe_58 : decode cX7_canBe 58 = .ok (.iconst 4, 1) := by decide +kernel
theorem dX7_canBe_59 : decode cX7_canBe 59 = .ok (.if_icmp .ne 17, 3) := by decide +kernel
theorem dX7_canBe_62 : decode cX7_canBe 62 = .ok (.iload_n 1, 1) := by decide +kernel
theorem dX7_canBe_63 : decode cX7_canBe 63 = .ok (.iconst 0, 1) := by decide +kernel
theorem dX7_canBe_64 : decode cX7_canBe 64 = .ok (.ldc 148, 2) := by decide +kernel
theorem dX7_canBe_66 : decode cX7_canBe 66 = .ok (.invokestatic 30, 3) := by decide +kernel
theorem dX7_canBe_69 : decode cX7_canBe 69 = .ok (.ifCond .eq 7, 3) := by decide +kernel
theorem dX7_canBe_72 : decode cX7_canBe 72 = .ok (.iconst 1, 1) := by decide +kernel
theorem dX7_canBe_73 : decode cX7_canBe 73 = .ok (.goto 4, 3) := by decide +kernel
theorem dX7_canBe_76 : decode cX7_canBe 76 = .ok (.iconst 0, 1) := by decide +kernel
theorem dX7_canBe_77 : decode cX7_canBe 77 = .ok (.ireturn, 1) := by decide +kernel
set_option maxRecDepth 20000 in
theorem ggX7_set_X7_canBe : GoodIn wsX7_set wsX7_canBe := goodIn_r _ [5, 6, 7, 8, 9, 4, 10] (by decide +kernel) (by decide +kernel)
set_option maxRecDepth 20000 in
theorem gX7_set_X7_canBe : GoodIn wsX7_set (va_wsS RX7 149 yX7_canBe wsX7_canBe) := goodIn_app (goodIn_of _ (by decide +kernel)) ggX7_set_X7_canBe
set_option maxRecDepth 20000 in
theorem ggX7_set_X7_records : GoodIn wsX7_set wsX7_records := goodIn_r _ [14, 15, 16, 1, 21, 22, 23, 24, 25, 26, 27, 28, 29, 30, 31, 32, 33] (by decide +kernel) (by decide +kernel)
set_option maxRecDepth 20000 in
theorem gX7_set_X7_records : GoodIn wsX7_set (wsV RX7 69 RX7 yX7_records wsX7_records) := goodIn_app (goodIn_of _ (by decide +kernel)) ggX7_set_X7_records
set_option maxRecDepth 20000 in
theorem ggX7_set_X7_setting : GoodIn wsX7_set wsX7_setting := goodIn_r _ [20, 1, 21, 22, 23, 24, 25, 26, 27, 28, 29, 30, 31, 32, 33] (by decide +kernel) (by decide +kernel)
set_option maxRecDepth 20000 in
theorem gX7_set_X7_setting : GoodIn wsX7_set (wsV RX7 102 RX7 yX7_setting wsX7_setting) := goodIn_app (goodIn_of _ (by decide +kernel)) ggX7_set_X7_setting
theorem dX7_set_0 : decode cX7_set 0 = .ok (.iload_n 1, 1) := by decide +kernel
theorem dX7_set_1 : decode cX7_set 1 = .ok (.iload_n 2, 1) := by decide +kernel
theorem dX7_set_2 : decode cX7_set 2 = .ok (.invokestatic 149, 3) := by decide +kernel
theorem dX7_set_5 : decode cX7_set 5 = .ok (.ifCond .ne 5, 3) := by decide +kernel
theorem dX7_set_8 : decode cX7_set 8 = .ok (.iconst (-1), 1) := by decide +kernel
theorem dX7_set_9 : decode cX7_set 9 = .ok (.ireturn, 1) := by decide +kernel
theorem dX7_set_10 : decode cX7_set 10 = .ok (.aload_n 0, 1) := by decide +kernel
theorem dX7_set_11 : decode cX7_set 11 = .ok (.invokevirtual 69, 3) := by decide +kernel
theorem dX7_set_14 : decode cX7_set 14 = .ok (.aload_n 0, 1) := by decide +kernel
theorem dX7_set_15 : decode cX7_set 15 = .ok (.iload_n 1, 1) := by decide +kernel
theorem dX7_set_16 : decode cX7_set 16 = .ok (.invokevirtual 102, 3) := by decide +kernel
theorem dX7_set_19 : decode cX7_set 19 = .ok (.istore_n 3, 1) := by decide +kernel
theorem dX7_set_20 : decode cX7_set 20 = .ok (.aload_n 0, 1) := by decide +kernel
theorem dX7_set_21 : decode cX7_set 21 = .ok (.getfield 7, 3) := by decide +kernel
theorem dX7_set_24 : decode cX7_set 24 = .ok (.iconst 4, 1) := by decide +kernel
theorem dX7_set_25 : decode cX7_set 25 = .ok (.iload_n 1, 1) := by decide +kernel
theorem dX7_set_26 : decode cX7_set 26 = .ok (.iadd, 1) := by decide +kernel
theorem dX7_set_27 : decode cX7_set 27 = .ok (.iload_n 2, 1) := by decide +kernel
theorem dX7_set_28 : decode cX7_set 28 = .ok (.iastore, 1) := by decide +kernel
theorem dX7_set_29 : decode cX7_set 29 = .ok (.iload_n 3, 1) := by decide +kernel
theorem dX7_set_30 : decode cX7_set 30 = .ok (.ireturn, 1) := by decide +kernel
set_option maxRecDepth 20000 in
theorem ggX7_isDamped_X7_of : GoodIn wsX7_isDamped wsX7_of := goodIn_r _ [5, 6, 38, 39, 40, 41, 42, 43, 44, 45, 46, 47, 48, 49, 50] (by decide +kernel) (by decide +kernel)
set_option maxRecDepth 20000 in
theorem gX7_isDamped_X7_of : GoodIn wsX7_isDamped (wsV RX7 48 RX7 yX7_of wsX7_of) := goodIn_app (goodIn_of _ (by decide +kernel)) ggX7_isDamped_X7_of
set_option maxRecDepth 20000 in
theorem ggX7_isDamped_X7_positionOf : GoodIn wsX7_isDamped wsX7_positionOf := goodIn_r _ [10, 11, 12, 13, 4, 14, 1, 2, 3, 5, 6, 15, 16, 17, 18, 19, 20, 21, 22, 23, 24, 25, 26, 27, 28, 29, 38, 39, 40, 41, 42, 43, 44, 45, 46, 47, 48, 49, 50] (by decide +kernel) (by decide +kernel)
set_option maxRecDepth 20000 in
theorem gX7_isDamped_X7_positionOf : GoodIn wsX7_isDamped (wsV RX7 58 RX7 yX7_positionOf wsX7_positionOf) := goodIn_app (goodIn_of _ (by decide +kernel)) ggX7_isDamped_X7_positionOf
set_option maxRecDepth 20000 in
theorem ggX7_isDamped_X7_hasNode : GoodIn wsX7_isDamped wsX7_hasNode := goodIn_r _ [33, 7, 8, 9, 4, 10, 11, 12, 13, 14, 1, 2, 3, 5, 6, 15, 16, 17, 18, 19, 20, 21, 22, 23, 24, 25, 26, 27, 28, 29, 34, 35, 36, 37, 38, 39, 40, 41, 42, 43, 44, 45, 46, 47, 48, 49, 50] (by decide +kernel) (by decide +kernel)
set_option maxRecDepth 20000 in
theorem gX7_isDamped_X7_hasNode : GoodIn wsX7_isDamped (wsV RX7 130 RX7 yX7_hasNode wsX7_hasNode) := goodIn_app (goodIn_of _ (by decide +kernel)) ggX7_isDamped_X7_hasNode
theorem dX7_isDamped_0 : decode cX7_isDamped 0 = .ok (.aload_n 0, 1) := by decide +kernel
theorem dX7_isDamped_1 : decode cX7_isDamped 1 = .ok (.iload_n 1, 1) := by decide +kernel
theorem dX7_isDamped_2 : decode cX7_isDamped 2 = .ok (.iconst 2, 1) := by decide +kernel
theorem dX7_isDamped_3 : decode cX7_isDamped 3 = .ok (.invokevirtual 48, 3) := by decide +kernel
theorem dX7_isDamped_6 : decode cX7_isDamped 6 = .ok (.aload_n 0, 1) := by decide +kernel
theorem dX7_isDamped_7 : decode cX7_isDamped 7 = .ok (.iload_n 1, 1) := by decide +kernel
theorem dX7_isDamped_8 : decode cX7_isDamped 8 = .ok (.invokevirtual 58, 3) := by decide +kernel
theorem dX7_isDamped_11 : decode cX7_isDamped 11 = .ok (.if_icmp .le 22, 3) := by decide +kernel
theorem dX7_isDamped_14 : decode cX7_isDamped 14 = .ok (.aload_n 0, 1) := by decide +kernel
theorem dX7_isDamped_15 : decode cX7_isDamped 15 = .ok (.iload_n 1, 1) := by decide +kernel
theorem dX7_isDamped_16 : decode cX7_isDamped 16 = .ok (.iload_n 2, 1) := by decide +kernel
theorem dX7_isDamped_17 : decode cX7_isDamped 17 = .ok (.aload_n 0, 1) := by decide +kernel
theorem dX7_isDamped_18 : decode cX7_isDamped 18 = .ok (.iload_n 1, 1) := by decide +kernel
theorem dX7_isDamped_19 : decode cX7_isDamped 19 = .ok (.iconst 2, 1) := by decide +kernel
theorem dX7_isDamped_20 : decode cX7_isDamped 20 = .ok (.invokevirtual 48, 3) := by decide +kernel
theorem dX7_isDamped_23 : decode cX7_isDamped 23 = .ok (.invokevirtual 130, 3) := by decide +kernel
theorem dX7_isDamped_26 : decode cX7_isDamped 26 = .ok (.ifCond .ne 7, 3) := by decide +kernel
theorem dX7_isDamped_29 : decode cX7_isDamped 29 = .ok (.iconst 1, 1) := by decide +kernel
theorem dX7_isDamped_30 : decode cX7_isDamped 30 = .ok (.goto 4, 3) := by decide +kernel
theorem dX7_isDamped_33 : decode cX7_isDamped 33 = .ok (.iconst 0, 1) := by decide +kernel
theorem dX7_isDamped_34 : decode cX7_isDamped 34 = .ok (.ireturn, 1) := by decide +kernel
set_option maxRecDepth 20000 in
theorem ggX7_fades_X7_setting : GoodIn wsX7_fades wsX7_setting := goodIn_r _ [6, 7, 8, 9, 10, 11, 12, 13, 14, 15, 16, 17, 18, 19, 20] (by decide +kernel) (by decide +kernel)
set_option maxRecDepth 20000 in
theorem gX7_fades_X7_setting : GoodIn wsX7_fades (wsV RX7 102 RX7 yX7_setting wsX7_setting) := goodIn_app (goodIn_of _ (by decide +kernel)) ggX7_fades_X7_setting
theorem dX7_fades_0 : decode cX7_fades 0 = .ok (.iload_n 1, 1) := by decide +kernel
theorem dX7_fades_1 : decode cX7_fades 1 = .ok (.i2l, 1) := by decide +kernel
theorem dX7_fades_2 : decode cX7_fades 2 = .ok (.lstore 4, 2) := by decide +kernel
theorem dX7_fades_4 : decode cX7_fades 4 = .ok (.lload 4, 2) := by decide +kernel
theorem dX7_fades_6 : decode cX7_fades 6 = .ok (.iload_n 3, 1) := by decide +kernel
theorem dX7_fades_7 : decode cX7_fades 7 = .ok (.ifCond .eq 19, 3) := by decide +kernel
theorem dX7_fades_10 : decode cX7_fades 10 = .ok (.lload 4, 2) := by decide +kernel
theorem dX7_fades_12 : decode cX7_fades 12 = .ok (.aload_n 0, 1) := by decide +kernel
theorem dX7_fades_13 : decode cX7_fades 13 = .ok (.iconst 2, 1) := by decide +kernel
theorem dX7_fades_14 : decode cX7_fades 14 = .ok (.invokevirtual 102, 3) := by decide +kernel
theorem dX7_fades_17 : decode cX7_fades 17 = .ok (.i2l, 1) := by decide +kernel
theorem dX7_fades_18 : decode cX7_fades 18 = .ok (.lmul, 1) := by decide +kernel
theorem dX7_fades_19 : decode cX7_fades 19 = .ok (.ldc2_w 152, 3) := by decide +kernel
theorem dX7_fades_22 : decode cX7_fades 22 = .ok (.ldiv, 1) := by decide +kernel
theorem dX7_fades_23 : decode cX7_fades 23 = .ok (.goto 4, 3) := by decide +kernel
theorem dX7_fades_26 : decode cX7_fades 26 = .ok (.lconst 0, 1) := by decide +kernel
theorem dX7_fades_27 : decode cX7_fades 27 = .ok (.lsub, 1) := by decide +kernel
theorem dX7_fades_28 : decode cX7_fades 28 = .ok (.lstore 4, 2) := by decide +kernel
theorem dX7_fades_30 : decode cX7_fades 30 = .ok (.lload 4, 2) := by decide +kernel
theorem dX7_fades_32 : decode cX7_fades 32 = .ok (.lload 4, 2) := by decide +kernel
theorem dX7_fades_34 : decode cX7_fades 34 = .ok (.aload_n 0, 1) := by decide +kernel
theorem dX7_fades_35 : decode cX7_fades 35 = .ok (.iconst 0, 1) := by decide +kernel
theorem dX7_fades_36 : decode cX7_fades 36 = .ok (.invokevirtual 102, 3) := by decide +kernel
theorem dX7_fades_39 : decode cX7_fades 39 = .ok (.aload_n 0, 1) := by decide +kernel
theorem dX7_fades_40 : decode cX7_fades 40 = .ok (.iconst 1, 1) := by decide +kernel
theorem dX7_fades_41 : decode cX7_fades 41 = .ok (.invokevirtual 102, 3) := by decide +kernel
theorem dX7_fades_44 : decode cX7_fades 44 = .ok (.iload_n 2, 1) := by decide +kernel
theorem dX7_fades_45 : decode cX7_fades 45 = .ok (.iconst 1, 1) := by decide +kernel
theorem dX7_fades_46 : decode cX7_fades 46 = .ok (.isub, 1) := by decide +kernel
theorem dX7_fades_47 : decode cX7_fades 47 = .ok (.imul, 1) := by decide +kernel
theorem dX7_fades_48 : decode cX7_fades 48 = .ok (.iadd, 1) := by decide +kernel
theorem dX7_fades_49 : decode cX7_fades 49 = .ok (.i2l, 1) := by decide +kernel
theorem dX7_fades_50 : decode cX7_fades 50 = .ok (.lmul, 1) := by decide +kernel
theorem dX7_fades_51 : decode cX7_fades 51 = .ok (.ldc2_w 152, 3) := by decide +kernel
theorem dX7_fades_54 : decode cX7_fades 54 = .ok (.ldiv, 1) := by decide +kernel
theorem dX7_fades_55 : decode cX7_fades 55 = .ok (.lsub, 1) := by decide +kernel
theorem dX7_fades_56 : decode cX7_fades 56 = .ok (.lstore 4, 2) := by decide +kernel
theorem dX7_fades_58 : decode cX7_fades 58 = .ok (.lload 4, 2) := by decide +kernel
theorem dX7_fades_60 : decode cX7_fades 60 = .ok (.lconst 0, 1) := by decide +kernel
theorem dX7_fades_61 : decode cX7_fades 61 = .ok (.lcmp, 1) := by decide +kernel
theorem dX7_fades_62 : decode cX7_fades 62 = .ok (.ifCond .le 11, 3) := by decide +kernel
theorem dX7_fades_65 : decode cX7_fades 65 = .ok (.lload 4, 2) := by decide +kernel
theorem dX7_fades_67 : decode cX7_fades 67 = .ok (.l2i, 1) := by decide +kernel
theorem dX7_fades_68 : decode cX7_fades 68 = .ok (.iconst 1, 1) := by decide +kernel
theorem dX7_fades_69 : decode cX7_fades 69 = .ok (.isub, 1) := by decide +kernel
theorem dX7_fades_70 : decode cX7_fades 70 = .ok (.goto 4, 3) := by decide +kernel
theorem dX7_fades_73 : decode cX7_fades 73 = .ok (.iconst 0, 1) := by decide +kernel
theorem dX7_fades_74 : decode cX7_fades 74 = .ok (.ireturn, 1) := by decide +kernel
set_option maxRecDepth 20000 in
theorem ggX7_goesOn_X7_isDamped : GoodIn wsX7_goesOn wsX7_isDamped := goodIn_r _ [6, 7, 8, 9, 5, 10, 1, 11, 12, 13, 14, 15, 16, 17, 18, 19, 20, 21, 22, 23, 24, 25, 26, 27, 28, 29, 30, 31, 32, 33, 34, 35, 36, 37, 38, 39, 40, 41, 55, 56, 57, 58, 59, 60, 61, 62, 63, 64, 65, 66, 67] (by decide +kernel) (by decide +kernel)
set_option maxRecDepth 20000 in
theorem gX7_goesOn_X7_isDamped : GoodIn wsX7_goesOn (wsV RX7 154 RX7 yX7_isDamped wsX7_isDamped) := goodIn_app (goodIn_of _ (by decide +kernel)) ggX7_goesOn_X7_isDamped
set_option maxRecDepth 20000 in
theorem ggX7_goesOn_X7_loud : GoodIn wsX7_goesOn wsX7_loud := goodIn_r _ [45, 1, 55, 56, 57, 58, 59, 60, 61, 62, 63, 64, 65, 66, 67] (by decide +kernel) (by decide +kernel)
set_option maxRecDepth 20000 in
theorem gX7_goesOn_X7_loud : GoodIn wsX7_goesOn (wsV RX7 99 RX7 yX7_loud wsX7_loud) := goodIn_app (goodIn_of _ (by decide +kernel)) ggX7_goesOn_X7_loud
set_option maxRecDepth 20000 in
theorem ggX7_goesOn_X7_fades : GoodIn wsX7_goesOn wsX7_fades := goodIn_r _ [49, 50, 51, 52, 53, 5, 54, 1, 55, 56, 57, 58, 59, 60, 61, 62, 63, 64, 65, 66, 67] (by decide +kernel) (by decide +kernel)
set_option maxRecDepth 20000 in
theorem gX7_goesOn_X7_fades : GoodIn wsX7_goesOn (wsV RX7 157 RX7 yX7_fades wsX7_fades) := goodIn_app (goodIn_of _ (by decide +kernel)) ggX7_goesOn_X7_fades
theorem dX7_goesOn_0 : decode cX7_goesOn 0 = .ok (.iconst 0, 1) := by decide +kernel
theorem dX7_goesOn_1 : decode cX7_goesOn 1 = .ok (.istore_n 2, 1) := by decide +kernel
theorem dX7_goesOn_2 : decode cX7_goesOn 2 = .ok (.iload_n 2, 1) := by decide +kernel
theorem dX7_goesOn_3 : decode cX7_goesOn 3 = .ok (.iconst 4, 1) := by decide +kernel
theorem dX7_goesOn_4 : decode cX7_goesOn 4 = .ok (.if_icmp .ge 88, 3) := by decide +kernel
theorem dX7_goesOn_7 : decode cX7_goesOn 7 = .ok (.iconst 1, 1) := by decide +kernel
theorem dX7_goesOn_8 : decode cX7_goesOn 8 = .ok (.istore_n 3, 1) := by decide +kernel
theorem dX7_goesOn_9 : decode cX7_goesOn 9 = .ok (.iload_n 3, 1) := by decide +kernel
theorem dX7_goesOn_10 : decode cX7_goesOn 10 = .ok (.bipush 12, 2) := by decide +kernel
theorem dX7_goesOn_12 : decode cX7_goesOn 12 = .ok (.if_icmp .gt 74, 3) := by decide +kernel
theorem dX7_goesOn_15 : decode cX7_goesOn 15 = .ok (.aload_n 0, 1) := by decide +kernel
theorem dX7_goesOn_16 : decode cX7_goesOn 16 = .ok (.iload_n 2, 1) := by decide +kernel
theorem dX7_goesOn_17 : decode cX7_goesOn 17 = .ok (.iload_n 3, 1) := by decide +kernel
theorem dX7_goesOn_18 : decode cX7_goesOn 18 = .ok (.invokevirtual 154, 3) := by decide +kernel
theorem dX7_goesOn_21 : decode cX7_goesOn 21 = .ok (.istore 4, 2) := by decide +kernel
theorem dX7_goesOn_23 : decode cX7_goesOn 23 = .ok (.aload_n 0, 1) := by decide +kernel
theorem dX7_goesOn_24 : decode cX7_goesOn 24 = .ok (.iload_n 2, 1) := by decide +kernel
theorem dX7_goesOn_25 : decode cX7_goesOn 25 = .ok (.iload_n 3, 1) := by decide +kernel
theorem dX7_goesOn_26 : decode cX7_goesOn 26 = .ok (.invokevirtual 99, 3) := by decide +kernel
theorem dX7_goesOn_29 : decode cX7_goesOn 29 = .ok (.istore 5, 2) := by decide +kernel
theorem dX7_goesOn_31 : decode cX7_goesOn 31 = .ok (.iconst 0, 1) := by decide +kernel
theorem dX7_goesOn_32 : decode cX7_goesOn 32 = .ok (.istore 6, 2) := by decide +kernel
theorem dX7_goesOn_34 : decode cX7_goesOn 34 = .ok (.iload 6, 2) := by decide +kernel
theorem dX7_goesOn_36 : decode cX7_goesOn 36 = .ok (.iload_n 1, 1) := by decide +kernel
theorem dX7_goesOn_37 : decode cX7_goesOn 37 = .ok (.if_icmp .ge 25, 3) := by decide +kernel
theorem dX7_goesOn_40 : decode cX7_goesOn 40 = .ok (.iload 5, 2) := by decide +kernel
theorem dX7_goesOn_42 : decode cX7_goesOn 42 = .ok (.ifCond .le 20, 3) := by decide +kernel
theorem dX7_goesOn_45 : decode cX7_goesOn 45 = .ok (.aload_n 0, 1) := by decide +kernel
theorem dX7_goesOn_46 : decode cX7_goesOn 46 = .ok (.iload 5, 2) := by decide +kernel
theorem dX7_goesOn_48 : decode cX7_goesOn 48 = .ok (.iload_n 3, 1) := by decide +kernel
theorem dX7_goesOn_49 : decode cX7_goesOn 49 = .ok (.iload 4, 2) := by decide +kernel
theorem dX7_goesOn_51 : decode cX7_goesOn 51 = .ok (.invokevirtual 157, 3) := by decide +kernel
theorem dX7_goesOn_54 : decode cX7_goesOn 54 = .ok (.istore 5, 2) := by decide +kernel
theorem dX7_goesOn_56 : decode cX7_goesOn 56 = .ok (.iinc 6 1, 3) := by decide +kernel
theorem dX7_goesOn_59 : decode cX7_goesOn 59 = .ok (.goto (-25), 3) := by decide +kernel
theorem dX7_goesOn_62 : decode cX7_goesOn 62 = .ok (.aload_n 0, 1) := by decide +kernel
theorem dX7_goesOn_63 : decode cX7_goesOn 63 = .ok (.getfield 7, 3) := by decide +kernel
theorem dX7_goesOn_66 : decode cX7_goesOn 66 = .ok (.bipush 61, 2) := by decide +kernel
theorem dX7_goesOn_68 : decode cX7_goesOn 68 = .ok (.bipush 12, 2) := by decide +kernel
theorem dX7_goesOn_70 : decode cX7_goesOn 70 = .ok (.iload_n 2, 1) := by decide +kernel
theorem dX7_goesOn_71 : decode cX7_goesOn 71 = .ok (.imul, 1) := by decide +kernel
theorem dX7_goesOn_72 : decode cX7_goesOn 72 = .ok (.iadd, 1) := by decide +kernel
theorem dX7_goesOn_73 : decode cX7_goesOn 73 = .ok (.iload_n 3, 1) := by decide +kernel
theorem dX7_goesOn_74 : decode cX7_goesOn 74 = .ok (.iadd, 1) := by decide +kernel
theorem dX7_goesOn_75 : decode cX7_goesOn 75 = .ok (.iconst 1, 1) := by decide +kernel
theorem dX7_goesOn_76 : decode cX7_goesOn 76 = .ok (.isub, 1) := by decide +kernel
theorem dX7_goesOn_77 : decode cX7_goesOn 77 = .ok (.iload 5, 2) := by decide +kernel
theorem dX7_goesOn_79 : decode cX7_goesOn 79 = .ok (.iastore, 1) := by decide +kernel
theorem dX7_goesOn_80 : decode cX7_goesOn 80 = .ok (.iinc 3 1, 3) := by decide +kernel
theorem dX7_goesOn_83 : decode cX7_goesOn 83 = .ok (.goto (-74), 3) := by decide +kernel
theorem dX7_goesOn_86 : decode cX7_goesOn 86 = .ok (.iinc 2 1, 3) := by decide +kernel
theorem dX7_goesOn_89 : decode cX7_goesOn 89 = .ok (.goto (-87), 3) := by decide +kernel
theorem dX7_goesOn_92 : decode cX7_goesOn 92 = .ok (.aload_n 0, 1) := by decide +kernel
theorem dX7_goesOn_93 : decode cX7_goesOn 93 = .ok (.getfield 7, 3) := by decide +kernel
theorem dX7_goesOn_96 : decode cX7_goesOn 96 = .ok (.iconst 1, 1) := by decide +kernel
theorem dX7_goesOn_97 : decode cX7_goesOn 97 = .ok (.dup2, 1) := by decide +kernel
theorem dX7_goesOn_98 : decode cX7_goesOn 98 = .ok (.iaload, 1) := by decide +kernel
theorem dX7_goesOn_99 : decode cX7_goesOn 99 = .ok (.iload_n 1, 1) := by decide +kernel
theorem dX7_goesOn_100 : decode cX7_goesOn 100 = .ok (.iadd, 1) := by decide +kernel
theorem dX7_goesOn_101 : decode cX7_goesOn 101 = .ok (.iastore, 1) := by decide +kernel
theorem dX7_goesOn_102 : decode cX7_goesOn 102 = .ok (.return_, 1) := by decide +kernel
set_option maxRecDepth 20000 in
theorem ggX7_heardOnes_X7_heardOf : GoodIn wsX7_heardOnes wsX7_heardOf := goodIn_r _ [5, 6, 7, 8, 4, 9, 10, 11, 12, 13, 14, 15, 16, 17, 18, 22, 23, 24, 25, 26, 27, 28, 29, 30, 31, 32, 33, 34] (by decide +kernel) (by decide +kernel)
set_option maxRecDepth 20000 in
theorem gX7_heardOnes_X7_heardOf : GoodIn wsX7_heardOnes (wsV RX7 118 RX7 yX7_heardOf wsX7_heardOf) := goodIn_app (goodIn_of _ (by decide +kernel)) ggX7_heardOnes_X7_heardOf
set_option maxRecDepth 20000 in
theorem ggX7_heardOnes_X7_bits : GoodIn wsX7_heardOnes wsX7_bits := goodIn_r _ [21] (by decide +kernel) (by decide +kernel)
set_option maxRecDepth 20000 in
theorem gX7_heardOnes_X7_bits : GoodIn wsX7_heardOnes (va_wsS RX7 121 yX7_bits wsX7_bits) := goodIn_app (goodIn_of _ (by decide +kernel)) ggX7_heardOnes_X7_bits
theorem dX7_heardOnes_0 : decode cX7_heardOnes 0 = .ok (.iconst 0, 1) := by decide +kernel
theorem dX7_heardOnes_1 : decode cX7_heardOnes 1 = .ok (.istore_n 1, 1) := by decide +kernel
theorem dX7_heardOnes_2 : decode cX7_heardOnes 2 = .ok (.iconst 0, 1) := by decide +kernel
theorem dX7_heardOnes_3 : decode cX7_heardOnes 3 = .ok (.istore_n 2, 1) := by decide +kernel
theorem dX7_heardOnes_4 : decode cX7_heardOnes 4 = .ok (.iload_n 2, 1) := by decide +kernel
theorem dX7_heardOnes_5 : decode cX7_heardOnes 5 = .ok (.iconst 4, 1) := by decide +kernel
theorem dX7_heardOnes_6 : decode cX7_heardOnes 6 = .ok (.if_icmp .ge 20, 3) := by decide +kernel
theorem dX7_heardOnes_9 : decode cX7_heardOnes 9 = .ok (.iload_n 1, 1) := by decide +kernel
theorem dX7_heardOnes_10 : decode cX7_heardOnes 10 = .ok (.aload_n 0, 1) := by decide +kernel
theorem dX7_heardOnes_11 : decode cX7_heardOnes 11 = .ok (.iload_n 2, 1) := by decide +kernel
theorem dX7_heardOnes_12 : decode cX7_heardOnes 12 = .ok (.invokevirtual 118, 3) := by decide +kernel
theorem dX7_heardOnes_15 : decode cX7_heardOnes 15 = .ok (.invokestatic 121, 3) := by decide +kernel
theorem dX7_heardOnes_18 : decode cX7_heardOnes 18 = .ok (.iadd, 1) := by decide +kernel
theorem dX7_heardOnes_19 : decode cX7_heardOnes 19 = .ok (.istore_n 1, 1) := by decide +kernel
theorem dX7_heardOnes_20 : decode cX7_heardOnes 20 = .ok (.iinc 2 1, 3) := by decide +kernel
theorem dX7_heardOnes_23 : decode cX7_heardOnes 23 = .ok (.goto (-19), 3) := by decide +kernel
theorem dX7_heardOnes_26 : decode cX7_heardOnes 26 = .ok (.iload_n 1, 1) := by decide +kernel
theorem dX7_heardOnes_27 : decode cX7_heardOnes 27 = .ok (.ireturn, 1) := by decide +kernel
set_option maxRecDepth 20000 in
theorem ggX7_run_X7_in : GoodIn wsX7_run wsX7_in := goodIn_r _ [6] (by decide +kernel) (by decide +kernel)
set_option maxRecDepth 20000 in
theorem gX7_run_X7_in : GoodIn wsX7_run (va_wsS RX7 30 yX7_in wsX7_in) := goodIn_app (goodIn_of _ (by decide +kernel)) ggX7_run_X7_in
set_option maxRecDepth 20000 in
theorem ggX7_run_X7_records : GoodIn wsX7_run wsX7_records := goodIn_r _ [10, 11, 12, 1, 84, 85, 86, 87, 88, 89, 90, 91, 92, 93, 94, 95, 96] (by decide +kernel) (by decide +kernel)
set_option maxRecDepth 20000 in
theorem gX7_run_X7_records : GoodIn wsX7_run (wsV RX7 69 RX7 yX7_records wsX7_records) := goodIn_app (goodIn_of _ (by decide +kernel)) ggX7_run_X7_records
set_option maxRecDepth 20000 in
theorem ggX7_run_X7_goesOn : GoodIn wsX7_run wsX7_goesOn := goodIn_r _ [16, 1, 17, 18, 19, 5, 20, 21, 22, 23, 24, 25, 26, 27, 28, 29, 30, 31, 32, 33, 34, 35, 36, 37, 38, 39, 40, 41, 42, 43, 44, 45, 46, 47, 48, 49, 50, 51, 52, 53, 54, 55, 56, 57, 58, 59, 60, 61, 62, 63, 64, 65, 66, 67, 68, 84, 85, 86, 87, 88, 89, 90, 91, 92, 93, 94, 95, 96] (by decide +kernel) (by decide +kernel)
set_option maxRecDepth 20000 in
theorem gX7_run_X7_goesOn : GoodIn wsX7_run (wsV RX7 161 RX7 yX7_goesOn wsX7_goesOn) := goodIn_app (goodIn_of _ (by decide +kernel)) ggX7_run_X7_goesOn
set_option maxRecDepth 20000 in
theorem ggX7_run_X7_heardOnes : GoodIn wsX7_run wsX7_heardOnes := goodIn_r _ [72, 73, 74, 75, 5, 76, 77, 78, 79, 80, 56, 57, 58, 59, 1, 65, 66, 67, 68, 81, 82, 83, 84, 85, 86, 87, 88, 89, 90, 91, 92, 93, 94, 95, 96] (by decide +kernel) (by decide +kernel)
set_option maxRecDepth 20000 in
theorem gX7_run_X7_heardOnes : GoodIn wsX7_run (wsV RX7 164 RX7 yX7_heardOnes wsX7_heardOnes) := goodIn_app (goodIn_of _ (by decide +kernel)) ggX7_run_X7_heardOnes
theorem dX7_run_0 : decode cX7_run 0 = .ok (.iload_n 1, 1) := by decide +kernel
theorem dX7_run_1 : decode cX7_run 1 = .ok (.iconst 1, 1) := by decide +kernel
theorem dX7_run_2 : decode cX7_run 2 = .ok (.sipush 500, 3) := by decide +kernel
theorem dX7_run_5 : decode cX7_run 5 = .ok (.invokestatic 30, 3) := by decide +kernel
theorem dX7_run_8 : decode cX7_run 8 = .ok (.ifCond .ne 5, 3) := by decide +kernel
theorem dX7_run_11 : decode cX7_run 11 = .ok (.iconst (-1), 1) := by decide +kernel
theorem dX7_run_12 : decode cX7_run 12 = .ok (.ireturn, 1) := by decide +kernel
theorem dX7_run_13 : decode cX7_run 13 = .ok (.aload_n 0, 1) := by decide +kernel
theorem dX7_run_14 : decode cX7_run 14 = .ok (.getfield 7, 3) := by decide +kernel
theorem dX7_run_17 : decode cX7_run 17 = .ok (.iconst 1, 1) := by decide +kernel
theorem dX7_run_18 : decode cX7_run 18 = .ok (.iaload, 1) := by decide +kernel
theorem dX7_run_19 : decode cX7_run 19 = .ok (.iload_n 1, 1) := by decide +kernel
theorem dX7_run_20 : decode cX7_run 20 = .ok (.iadd, 1) := by decide +kernel
theorem dX7_run_21 : decode cX7_run 21 = .ok (.ldc 148, 2) := by decide +kernel
theorem dX7_run_23 : decode cX7_run 23 = .ok (.if_icmp .le 6, 3) := by decide +kernel
theorem dX7_run_26 : decode cX7_run 26 = .ok (.bipush (-3), 2) := by decide +kernel
theorem dX7_run_28 : decode cX7_run 28 = .ok (.ireturn, 1) := by decide +kernel
theorem dX7_run_29 : decode cX7_run 29 = .ok (.aload_n 0, 1) := by decide +kernel
theorem dX7_run_30 : decode cX7_run 30 = .ok (.invokevirtual 69, 3) := by decide +kernel
theorem dX7_run_33 : decode cX7_run 33 = .ok (.aload_n 0, 1) := by decide +kernel
theorem dX7_run_34 : decode cX7_run 34 = .ok (.iload_n 1, 1) := by decide +kernel
theorem dX7_run_35 : decode cX7_run 35 = .ok (.invokevirtual 161, 3) := by decide +kernel
theorem dX7_run_38 : decode cX7_run 38 = .ok (.aload_n 0, 1) := by decide +kernel
theorem dX7_run_39 : decode cX7_run 39 = .ok (.invokevirtual 164, 3) := by decide +kernel
theorem dX7_run_42 : decode cX7_run 42 = .ok (.ireturn, 1) := by decide +kernel
set_option maxRecDepth 20000 in
theorem ggX7_ticksTo_X7_isString : GoodIn wsX7_ticksTo wsX7_isString := goodIn_r _ [4, 5, 6, 3, 7] (by decide +kernel) (by decide +kernel)
set_option maxRecDepth 20000 in
theorem gX7_ticksTo_X7_isString : GoodIn wsX7_ticksTo (va_wsS RX7 88 yX7_isString wsX7_isString) := goodIn_app (goodIn_of _ (by decide +kernel)) ggX7_ticksTo_X7_isString
set_option maxRecDepth 20000 in
theorem ggX7_ticksTo_X7_isMode : GoodIn wsX7_ticksTo wsX7_isMode := goodIn_r _ [10, 5, 6, 3, 7] (by decide +kernel) (by decide +kernel)
set_option maxRecDepth 20000 in
theorem gX7_ticksTo_X7_isMode : GoodIn wsX7_ticksTo (va_wsS RX7 133 yX7_isMode wsX7_isMode) := goodIn_app (goodIn_of _ (by decide +kernel)) ggX7_ticksTo_X7_isMode
set_option maxRecDepth 20000 in
theorem ggX7_ticksTo_X7_isDamped : GoodIn wsX7_ticksTo wsX7_isDamped := goodIn_r _ [14, 15, 16, 17, 3, 18, 19, 20, 21, 22, 23, 24, 25, 26, 27, 28, 29, 30, 31, 32, 33, 34, 35, 36, 37, 38, 39, 40, 41, 42, 43, 44, 45, 46, 47, 48, 49, 50, 64, 65, 66, 67, 68, 69, 70, 71, 72, 73, 74, 75, 76] (by decide +kernel) (by decide +kernel)
set_option maxRecDepth 20000 in
theorem gX7_ticksTo_X7_isDamped : GoodIn wsX7_ticksTo (wsV RX7 154 RX7 yX7_isDamped wsX7_isDamped) := goodIn_app (goodIn_of _ (by decide +kernel)) ggX7_ticksTo_X7_isDamped
set_option maxRecDepth 20000 in
theorem ggX7_ticksTo_X7_loud : GoodIn wsX7_ticksTo wsX7_loud := goodIn_r _ [54, 19, 64, 65, 66, 67, 68, 69, 70, 71, 72, 73, 74, 75, 76] (by decide +kernel) (by decide +kernel)
set_option maxRecDepth 20000 in
theorem gX7_ticksTo_X7_loud : GoodIn wsX7_ticksTo (wsV RX7 99 RX7 yX7_loud wsX7_loud) := goodIn_app (goodIn_of _ (by decide +kernel)) ggX7_ticksTo_X7_loud
set_option maxRecDepth 20000 in
theorem ggX7_ticksTo_X7_setting : GoodIn wsX7_ticksTo wsX7_setting := goodIn_r _ [58, 19, 64, 65, 66, 67, 68, 69, 70, 71, 72, 73, 74, 75, 76] (by decide +kernel) (by decide +kernel)
set_option maxRecDepth 20000 in
theorem gX7_ticksTo_X7_setting : GoodIn wsX7_ticksTo (wsV RX7 102 RX7 yX7_setting wsX7_setting) := goodIn_app (goodIn_of _ (by decide +kernel)) ggX7_ticksTo_X7_setting
set_option maxRecDepth 20000 in
theorem ggX7_ticksTo_X7_fades : GoodIn wsX7_ticksTo wsX7_fades := goodIn_r _ [62, 63, 55, 56, 57, 3, 58, 19, 64, 65, 66, 67, 68, 69, 70, 71, 72, 73, 74, 75, 76] (by decide +kernel) (by decide +kernel)
set_option maxRecDepth 20000 in
theorem gX7_ticksTo_X7_fades : GoodIn wsX7_ticksTo (wsV RX7 157 RX7 yX7_fades wsX7_fades) := goodIn_app (goodIn_of _ (by decide +kernel)) ggX7_ticksTo_X7_fades
theorem dX7_ticksTo_0 : decode cX7_ticksTo 0 = .ok (.iload_n 1, 1) := by decide +kernel
theorem dX7_ticksTo_1 : decode cX7_ticksTo 1 = .ok (.invokestatic 88, 3) := by decide +kernel
theorem dX7_ticksTo_4 : decode cX7_ticksTo 4 = .ok (.ifCond .eq 10, 3) := by decide +kernel
theorem dX7_ticksTo_7 : decode cX7_ticksTo 7 = .ok (.iload_n 2, 1) := by decide +kernel
theorem dX7_ticksTo_8 : decode cX7_ticksTo 8 = .ok (.invokestatic 133, 3) := by decide +kernel
theorem dX7_ticksTo_11 : decode cX7_ticksTo 11 = .ok (.ifCond .ne 5, 3) := by decide +kernel
theorem dX7_ticksTo_14 : decode cX7_ticksTo 14 = .ok (.iconst (-1), 1) := by decide +kernel
theorem dX7_ticksTo_15 : decode cX7_ticksTo 15 = .ok (.ireturn, 1) := by decide +kernel
theorem dX7_ticksTo_16 : decode cX7_ticksTo 16 = .ok (.aload_n 0, 1) := by decide +kernel
theorem dX7_ticksTo_17 : decode cX7_ticksTo 17 = .ok (.iload_n 1, 1) := by decide +kernel
theorem dX7_ticksTo_18 : decode cX7_ticksTo 18 = .ok (.iload_n 2, 1) := by decide +kernel
theorem dX7_ticksTo_19 : decode cX7_ticksTo 19 = .ok (.invokevirtual 154, 3) := by decide +kernel
theorem dX7_ticksTo_22 : decode cX7_ticksTo 22 = .ok (.istore_n 3, 1) := by decide +kernel
theorem dX7_ticksTo_23 : decode cX7_ticksTo 23 = .ok (.aload_n 0, 1) := by decide +kernel
theorem dX7_ticksTo_24 : decode cX7_ticksTo 24 = .ok (.iload_n 1, 1) := by decide +kernel
theorem dX7_ticksTo_25 : decode cX7_ticksTo 25 = .ok (.iload_n 2, 1) := by decide +kernel
theorem dX7_ticksTo_26 : decode cX7_ticksTo 26 = .ok (.invokevirtual 99, 3) := by decide +kernel
theorem dX7_ticksTo_29 : decode cX7_ticksTo 29 = .ok (.istore 4, 2) := by decide +kernel
theorem dX7_ticksTo_31 : decode cX7_ticksTo 31 = .ok (.iconst 0, 1) := by decide +kernel
theorem dX7_ticksTo_32 : decode cX7_ticksTo 32 = .ok (.istore 5, 2) := by decide +kernel
theorem dX7_ticksTo_34 : decode cX7_ticksTo 34 = .ok (.iload 5, 2) := by decide +kernel
theorem dX7_ticksTo_36 : decode cX7_ticksTo 36 = .ok (.sipush 2000, 3) := by decide +kernel
theorem dX7_ticksTo_39 : decode cX7_ticksTo 39 = .ok (.if_icmp .gt 37, 3) := by decide +kernel
theorem dX7_ticksTo_42 : decode cX7_ticksTo 42 = .ok (.iload 4, 2) := by decide +kernel
theorem dX7_ticksTo_44 : decode cX7_ticksTo 44 = .ok (.ifCond .eq 13, 3) := by decide +kernel
theorem dX7_ticksTo_47 : decode cX7_ticksTo 47 = .ok (.iload 4, 2) := by decide +kernel
theorem dX7_ticksTo_49 : decode cX7_ticksTo 49 = .ok (.aload_n 0, 1) := by decide +kernel
theorem dX7_ticksTo_50 : decode cX7_ticksTo 50 = .ok (.iconst 4, 1) := by decide +kernel
theorem dX7_ticksTo_51 : decode cX7_ticksTo 51 = .ok (.invokevirtual 102, 3) := by decide +kernel
theorem dX7_ticksTo_54 : decode cX7_ticksTo 54 = .ok (.if_icmp .ge 6, 3) := by decide +kernel
theorem dX7_ticksTo_57 : decode cX7_ticksTo 57 = .ok (.iload 5, 2) := by decide +kernel
theorem dX7_ticksTo_59 : decode cX7_ticksTo 59 = .ok (.ireturn, 1) := by decide +kernel
theorem dX7_ticksTo_60 : decode cX7_ticksTo 60 = .ok (.aload_n 0, 1) := by decide +kernel
theorem dX7_ticksTo_61 : decode cX7_ticksTo 61 = .ok (.iload 4, 2) := by decide +kernel
theorem dX7_ticksTo_63 : decode cX7_ticksTo 63 = .ok (.iload_n 2, 1) := by decide +kernel
theorem dX7_ticksTo_64 : decode cX7_ticksTo 64 = .ok (.iload_n 3, 1) := by decide +kernel
theorem dX7_ticksTo_65 : decode cX7_ticksTo 65 = .ok (.invokevirtual 157, 3) := by decide +kernel
theorem dX7_ticksTo_68 : decode cX7_ticksTo 68 = .ok (.istore 4, 2) := by decide +kernel
theorem dX7_ticksTo_70 : decode cX7_ticksTo 70 = .ok (.iinc 5 1, 3) := by decide +kernel
theorem dX7_ticksTo_73 : decode cX7_ticksTo 73 = .ok (.goto (-39), 3) := by decide +kernel
theorem dX7_ticksTo_76 : decode cX7_ticksTo 76 = .ok (.bipush (-4), 2) := by decide +kernel
theorem dX7_ticksTo_78 : decode cX7_ticksTo 78 = .ok (.ireturn, 1) := by decide +kernel
set_option maxRecDepth 20000 in
theorem ggX7_beats_X7_pitch : GoodIn wsX7_beats wsX7_pitch := goodIn_r _ [5, 6, 7, 8, 4, 9, 10, 11, 12, 13, 14, 15, 16, 17, 18, 19, 20, 21, 22, 23, 24, 25, 26, 27, 28, 29, 30, 31, 32, 33, 34, 35, 36, 37, 50, 51, 52, 53, 54, 55, 56, 57, 58, 59, 60, 61, 62] (by decide +kernel) (by decide +kernel)
set_option maxRecDepth 20000 in
theorem gX7_beats_X7_pitch : GoodIn wsX7_beats (wsV RX7 136 RX7 yX7_pitch wsX7_pitch) := goodIn_app (goodIn_of _ (by decide +kernel)) ggX7_beats_X7_pitch
set_option maxRecDepth 20000 in
theorem ggX7_beats_X7_isHeard : GoodIn wsX7_beats wsX7_isHeard := goodIn_r _ [41, 42, 43, 44, 4, 45, 10, 46, 47, 48, 49, 50, 51, 52, 53, 54, 55, 56, 57, 58, 59, 60, 61, 62] (by decide +kernel) (by decide +kernel)
set_option maxRecDepth 20000 in
theorem gX7_beats_X7_isHeard : GoodIn wsX7_beats (wsV RX7 105 RX7 yX7_isHeard wsX7_isHeard) := goodIn_app (goodIn_of _ (by decide +kernel)) ggX7_beats_X7_isHeard
theorem dX7_beats_0 : decode cX7_beats 0 = .ok (.aload_n 0, 1) := by decide +kernel
theorem dX7_beats_1 : decode cX7_beats 1 = .ok (.iload_n 1, 1) := by decide +kernel
theorem dX7_beats_2 : decode cX7_beats 2 = .ok (.iload_n 2, 1) := by decide +kernel
theorem dX7_beats_3 : decode cX7_beats 3 = .ok (.invokevirtual 136, 3) := by decide +kernel
theorem dX7_beats_6 : decode cX7_beats 6 = .ok (.aload_n 0, 1) := by decide +kernel
theorem dX7_beats_7 : decode cX7_beats 7 = .ok (.iload_n 3, 1) := by decide +kernel
theorem dX7_beats_8 : decode cX7_beats 8 = .ok (.iload 4, 2) := by decide +kernel
theorem dX7_beats_10 : decode cX7_beats 10 = .ok (.invokevirtual 136, 3) := by decide +kernel
theorem dX7_beats_13 : decode cX7_beats 13 = .ok (.isub, 1) := by decide +kernel
theorem dX7_beats_14 : decode cX7_beats 14 = .ok (.istore 5, 2) := by decide +kernel
theorem dX7_beats_16 : decode cX7_beats 16 = .ok (.aload_n 0, 1) := by decide +kernel
theorem dX7_beats_17 : decode cX7_beats 17 = .ok (.iload_n 1, 1) := by decide +kernel
theorem dX7_beats_18 : decode cX7_beats 18 = .ok (.iload_n 2, 1) := by decide +kernel
theorem dX7_beats_19 : decode cX7_beats 19 = .ok (.invokevirtual 105, 3) := by decide +kernel
theorem dX7_beats_22 : decode cX7_beats 22 = .ok (.ifCond .eq 22, 3) := by decide +kernel
theorem dX7_beats_25 : decode cX7_beats 25 = .ok (.aload_n 0, 1) := by decide +kernel
theorem dX7_beats_26 : decode cX7_beats 26 = .ok (.iload_n 3, 1) := by decide +kernel
theorem dX7_beats_27 : decode cX7_beats 27 = .ok (.iload 4, 2) := by decide +kernel
theorem dX7_beats_29 : decode cX7_beats 29 = .ok (.invokevirtual 105, 3) := by decide +kernel
theorem dX7_beats_32 : decode cX7_beats 32 = .ok (.ifCond .eq 12, 3) := by decide +kernel
theorem dX7_beats_35 : decode cX7_beats 35 = .ok (.iload 5, 2) := by decide +kernel
theorem dX7_beats_37 : decode cX7_beats 37 = .ok (.ifCond .eq 7, 3) := by decide +kernel
theorem dX7_beats_40 : decode cX7_beats 40 = .ok (.iconst 1, 1) := by decide +kernel
theorem dX7_beats_41 : decode cX7_beats 41 = .ok (.goto 4, 3) := by decide +kernel
theorem dX7_beats_44 : decode cX7_beats 44 = .ok (.iconst 0, 1) := by decide +kernel
theorem dX7_beats_45 : decode cX7_beats 45 = .ok (.istore 6, 2) := by decide +kernel
theorem dX7_beats_47 : decode cX7_beats 47 = .ok (.iload 6, 2) := by decide +kernel
theorem dX7_beats_49 : decode cX7_beats 49 = .ok (.ifCond .ne 8, 3) := by decide +kernel
theorem dX7_beats_52 : decode cX7_beats 52 = .ok (.bipush (-4), 2) := by decide +kernel
theorem dX7_beats_54 : decode cX7_beats 54 = .ok (.goto 16, 3) := by decide +kernel
theorem dX7_beats_57 : decode cX7_beats 57 = .ok (.iload 5, 2) := by decide +kernel
theorem dX7_beats_59 : decode cX7_beats 59 = .ok (.ifCond .ge 9, 3) := by decide +kernel
theorem dX7_beats_62 : decode cX7_beats 62 = .ok (.iload 5, 2) := by decide +kernel
theorem dX7_beats_64 : decode cX7_beats 64 = .ok (.ineg, 1) := by decide +kernel
theorem dX7_beats_65 : decode cX7_beats 65 = .ok (.goto 5, 3) := by decide +kernel
theorem dX7_beats_68 : decode cX7_beats 68 = .ok (.iload 5, 2) := by decide +kernel
theorem dX7_beats_70 : decode cX7_beats 70 = .ok (.ireturn, 1) := by decide +kernel
set_option maxRecDepth 20000 in
theorem ggX7_areTwo_X7_isString : GoodIn wsX7_areTwo wsX7_isString := goodIn_r _ [4, 5, 6, 3, 7] (by decide +kernel) (by decide +kernel)
set_option maxRecDepth 20000 in
theorem gX7_areTwo_X7_isString : GoodIn wsX7_areTwo (va_wsS RX7 88 yX7_isString wsX7_isString) := goodIn_app (goodIn_of _ (by decide +kernel)) ggX7_areTwo_X7_isString
theorem dX7_areTwo_0 : decode cX7_areTwo 0 = .ok (.iload_n 0, 1) := by decide +kernel
theorem dX7_areTwo_1 : decode cX7_areTwo 1 = .ok (.invokestatic 88, 3) := by decide +kernel
theorem dX7_areTwo_4 : decode cX7_areTwo 4 = .ok (.ifCond .eq 19, 3) := by decide +kernel
theorem dX7_areTwo_7 : decode cX7_areTwo 7 = .ok (.iload_n 1, 1) := by decide +kernel
theorem dX7_areTwo_8 : decode cX7_areTwo 8 = .ok (.invokestatic 88, 3) := by decide +kernel
theorem dX7_areTwo_11 : decode cX7_areTwo 11 = .ok (.ifCond .eq 12, 3) := by decide +kernel
theorem dX7_areTwo_14 : decode cX7_areTwo 14 = .ok (.iload_n 0, 1) := by decide +kernel
theorem dX7_areTwo_15 : decode cX7_areTwo 15 = .ok (.iload_n 1, 1) := by decide +kernel
theorem dX7_areTwo_16 : decode cX7_areTwo 16 = .ok (.if_icmp .eq 7, 3) := by decide +kernel
theorem dX7_areTwo_19 : decode cX7_areTwo 19 = .ok (.iconst 1, 1) := by decide +kernel
theorem dX7_areTwo_20 : decode cX7_areTwo 20 = .ok (.goto 4, 3) := by decide +kernel
theorem dX7_areTwo_23 : decode cX7_areTwo 23 = .ok (.iconst 0, 1) := by decide +kernel
theorem dX7_areTwo_24 : decode cX7_areTwo 24 = .ok (.ireturn, 1) := by decide +kernel
set_option maxRecDepth 20000 in
theorem ggX7_beat_X7_areTwo : GoodIn wsX7_beat wsX7_areTwo := goodIn_r _ [4, 5, 6, 3, 7, 8, 9, 10] (by decide +kernel) (by decide +kernel)
set_option maxRecDepth 20000 in
theorem gX7_beat_X7_areTwo : GoodIn wsX7_beat (va_wsS RX7 168 yX7_areTwo wsX7_areTwo) := goodIn_app (goodIn_of _ (by decide +kernel)) ggX7_beat_X7_areTwo
set_option maxRecDepth 20000 in
theorem ggX7_beat_X7_isMode : GoodIn wsX7_beat wsX7_isMode := goodIn_r _ [13, 8, 9, 3, 10] (by decide +kernel) (by decide +kernel)
set_option maxRecDepth 20000 in
theorem gX7_beat_X7_isMode : GoodIn wsX7_beat (va_wsS RX7 133 yX7_isMode wsX7_isMode) := goodIn_app (goodIn_of _ (by decide +kernel)) ggX7_beat_X7_isMode
set_option maxRecDepth 20000 in
theorem ggX7_beat_X7_beats : GoodIn wsX7_beat wsX7_beats := goodIn_r _ [17, 18, 19, 20, 3, 21, 22, 23, 24, 25, 26, 27, 28, 29, 30, 31, 32, 33, 34, 35, 36, 37, 38, 39, 40, 41, 42, 43, 44, 45, 46, 47, 48, 49, 50, 51, 52, 53, 54, 55, 56, 57, 58, 59, 60, 61, 62, 63, 64, 65, 66, 67, 68, 69, 70, 71, 72, 73, 74, 75, 76, 77, 78] (by decide +kernel) (by decide +kernel)
set_option maxRecDepth 20000 in
theorem gX7_beat_X7_beats : GoodIn wsX7_beat (wsV RX7 171 RX7 yX7_beats wsX7_beats) := goodIn_app (goodIn_of _ (by decide +kernel)) ggX7_beat_X7_beats
theorem dX7_beat_0 : decode cX7_beat 0 = .ok (.iload_n 1, 1) := by decide +kernel
theorem dX7_beat_1 : decode cX7_beat 1 = .ok (.iload_n 3, 1) := by decide +kernel
theorem dX7_beat_2 : decode cX7_beat 2 = .ok (.invokestatic 168, 3) := by decide +kernel
theorem dX7_beat_5 : decode cX7_beat 5 = .ok (.ifCond .eq 30, 3) := by decide +kernel
theorem dX7_beat_8 : decode cX7_beat 8 = .ok (.iload_n 2, 1) := by decide +kernel
theorem dX7_beat_9 : decode cX7_beat 9 = .ok (.invokestatic 133, 3) := by decide +kernel
theorem dX7_beat_12 : decode cX7_beat 12 = .ok (.ifCond .eq 23, 3) := by decide +kernel
theorem dX7_beat_15 : decode cX7_beat 15 = .ok (.iload 4, 2) := by decide +kernel
theorem dX7_beat_17 : decode cX7_beat 17 = .ok (.invokestatic 133, 3) := by decide +kernel
theorem dX7_beat_20 : decode cX7_beat 20 = .ok (.ifCond .eq 15, 3) := by decide +kernel
theorem dX7_beat_23 : decode cX7_beat 23 = .ok (.aload_n 0, 1) := by decide +kernel
theorem dX7_beat_24 : decode cX7_beat 24 = .ok (.iload_n 1, 1) := by decide +kernel
theorem dX7_beat_25 : decode cX7_beat 25 = .ok (.iload_n 2, 1) := by decide +kernel
theorem dX7_beat_26 : decode cX7_beat 26 = .ok (.iload_n 3, 1) := by decide +kernel
theorem dX7_beat_27 : decode cX7_beat 27 = .ok (.iload 4, 2) := by decide +kernel
theorem dX7_beat_29 : decode cX7_beat 29 = .ok (.invokevirtual 171, 3) := by decide +kernel
theorem dX7_beat_32 : decode cX7_beat 32 = .ok (.goto 4, 3) := by decide +kernel
theorem dX7_beat_35 : decode cX7_beat 35 = .ok (.iconst (-1), 1) := by decide +kernel
theorem dX7_beat_36 : decode cX7_beat 36 = .ok (.ireturn, 1) := by decide +kernel
set_option maxRecDepth 20000 in
theorem ggX7_slowest_X7_areTwo : GoodIn wsX7_slowest wsX7_areTwo := goodIn_r _ [4, 5, 6, 3, 7, 8, 9, 10] (by decide +kernel) (by decide +kernel)
set_option maxRecDepth 20000 in
theorem gX7_slowest_X7_areTwo : GoodIn wsX7_slowest (va_wsS RX7 168 yX7_areTwo wsX7_areTwo) := goodIn_app (goodIn_of _ (by decide +kernel)) ggX7_slowest_X7_areTwo
set_option maxRecDepth 20000 in
theorem ggX7_slowest_X7_in : GoodIn wsX7_slowest wsX7_in := goodIn_r _ [10] (by decide +kernel) (by decide +kernel)
set_option maxRecDepth 20000 in
theorem gX7_slowest_X7_in : GoodIn wsX7_slowest (va_wsS RX7 30 yX7_in wsX7_in) := goodIn_app (goodIn_of _ (by decide +kernel)) ggX7_slowest_X7_in
set_option maxRecDepth 20000 in
theorem ggX7_slowest_X7_beats : GoodIn wsX7_slowest wsX7_beats := goodIn_r _ [14, 15, 16, 17, 3, 18, 19, 20, 21, 22, 23, 24, 25, 26, 27, 28, 29, 30, 31, 32, 33, 34, 35, 36, 37, 38, 39, 40, 41, 42, 43, 44, 45, 46, 47, 48, 49, 50, 51, 52, 53, 54, 55, 56, 57, 58, 59, 60, 61, 62, 63, 64, 65, 66, 67, 68, 69, 70, 71, 72, 73, 74, 75] (by decide +kernel) (by decide +kernel)
set_option maxRecDepth 20000 in
theorem gX7_slowest_X7_beats : GoodIn wsX7_slowest (wsV RX7 171 RX7 yX7_beats wsX7_beats) := goodIn_app (goodIn_of _ (by decide +kernel)) ggX7_slowest_X7_beats
theorem dX7_slowest_0 : decode cX7_slowest 0 = .ok (.iload_n 1, 1) := by decide +kernel
theorem dX7_slowest_1 : decode cX7_slowest 1 = .ok (.iload_n 2, 1) := by decide +kernel
theorem dX7_slowest_2 : decode cX7_slowest 2 = .ok (.invokestatic 168, 3) := by decide +kernel
theorem dX7_slowest_5 : decode cX7_slowest 5 = .ok (.ifCond .eq 12, 3) := by decide +kernel
theorem dX7_slowest_8 : decode cX7_slowest 8 = .ok (.iload_n 3, 1) := by decide +kernel
theorem dX7_slowest_9 : decode cX7_slowest 9 = .ok (.iconst 0, 1) := by decide +kernel
theorem dX7_slowest_10 : decode cX7_slowest 10 = .ok (.iconst 2, 1) := by decide +kernel
theorem dX7_slowest_11 : decode cX7_slowest 11 = .ok (.invokestatic 30, 3) := by decide +kernel
theorem dX7_slowest_14 : decode cX7_slowest 14 = .ok (.ifCond .ne 5, 3) := by decide +kernel
theorem dX7_slowest_17 : decode cX7_slowest 17 = .ok (.iconst (-1), 1) := by decide +kernel
theorem dX7_slowest_18 : decode cX7_slowest 18 = .ok (.ireturn, 1) := by decide +kernel
theorem dX7_slowest_19 : decode cX7_slowest 19 = .ok (.bipush (-4), 2) := by decide +kernel
theorem dX7_slowest_21 : decode cX7_slowest 21 = .ok (.istore 4, 2) := by decide +kernel
theorem dX7_slowest_23 : decode cX7_slowest 23 = .ok (.iconst 0, 1) := by decide +kernel
theorem dX7_slowest_24 : decode cX7_slowest 24 = .ok (.istore 5, 2) := by decide +kernel
theorem dX7_slowest_26 : decode cX7_slowest 26 = .ok (.iconst 0, 1) := by decide +kernel
theorem dX7_slowest_27 : decode cX7_slowest 27 = .ok (.istore 6, 2) := by decide +kernel
theorem dX7_slowest_29 : decode cX7_slowest 29 = .ok (.iconst 1, 1) := by decide +kernel
theorem dX7_slowest_30 : decode cX7_slowest 30 = .ok (.istore 7, 2) := by decide +kernel
theorem dX7_slowest_32 : decode cX7_slowest 32 = .ok (.iload 7, 2) := by decide +kernel
theorem dX7_slowest_34 : decode cX7_slowest 34 = .ok (.bipush 12, 2) := by decide +kernel
theorem dX7_slowest_36 : decode cX7_slowest 36 = .ok (.if_icmp .gt 103, 3) := by decide +kernel
theorem dX7_slowest_39 : decode cX7_slowest 39 = .ok (.iconst 1, 1) := by decide +kernel
theorem dX7_slowest_40 : decode cX7_slowest 40 = .ok (.istore 8, 2) := by decide +kernel
theorem dX7_slowest_42 : decode cX7_slowest 42 = .ok (.iload 8, 2) := by decide +kernel
theorem dX7_slowest_44 : decode cX7_slowest 44 = .ok (.bipush 12, 2) := by decide +kernel
theorem dX7_slowest_46 : decode cX7_slowest 46 = .ok (.if_icmp .gt 87, 3) := by decide +kernel
theorem dX7_slowest_49 : decode cX7_slowest 49 = .ok (.aload_n 0, 1) := by decide +kernel
theorem dX7_slowest_50 : decode cX7_slowest 50 = .ok (.iload_n 1, 1) := by decide +kernel
theorem dX7_slowest_51 : decode cX7_slowest 51 = .ok (.iload 7, 2) := by decide +kernel
theorem dX7_slowest_53 : decode cX7_slowest 53 = .ok (.iload_n 2, 1) := by decide +kernel
theorem dX7_slowest_54 : decode cX7_slowest 54 = .ok (.iload 8, 2) := by decide +kernel
theorem dX7_slowest_56 : decode cX7_slowest 56 = .ok (.invokevirtual 171, 3) := by decide +kernel
theorem dX7_slowest_59 : decode cX7_slowest 59 = .ok (.istore 9, 2) := by decide +kernel
theorem dX7_slowest_61 : decode cX7_slowest 61 = .ok (.iload 9, 2) := by decide +kernel
theorem dX7_slowest_63 : decode cX7_slowest 63 = .ok (.ifCond .lt 19, 3) := by decide +kernel
theorem dX7_slowest_66 : decode cX7_slowest 66 = .ok (.iload 4, 2) := by decide +kernel
theorem dX7_slowest_68 : decode cX7_slowest 68 = .ok (.ifCond .lt 10, 3) := by decide +kernel
theorem dX7_slowest_71 : decode cX7_slowest 71 = .ok (.iload 9, 2) := by decide +kernel
theorem dX7_slowest_73 : decode cX7_slowest 73 = .ok (.iload 4, 2) := by decide +kernel
theorem dX7_slowest_75 : decode cX7_slowest 75 = .ok (.if_icmp .ge 7, 3) := by decide +kernel
theorem dX7_slowest_78 : decode cX7_slowest 78 = .ok (.iconst 1, 1) := by decide +kernel
theorem dX7_slowest_79 : decode cX7_slowest 79 = .ok (.goto 4, 3) := by decide +kernel
theorem dX7_slowest_82 : decode cX7_slowest 82 = .ok (.iconst 0, 1) := by decide +kernel
theorem dX7_slowest_83 : decode cX7_slowest 83 = .ok (.istore 10, 2) := by decide +kernel
theorem dX7_slowest_85 : decode cX7_slowest 85 = .ok (.iload 10, 2) := by decide +kernel
theorem dX7_slowest_87 : decode cX7_slowest 87 = .ok (.ifCond .eq 8, 3) := by decide +kernel
theorem dX7_slowest_90 : decode cX7_slowest 90 = .ok (.iload 7, 2) := by decide +kernel
theorem dX7_slowest_92 : decode cX7_slowest 92 = .ok (.goto 5, 3) := by decide +kernel
theorem dX7_slowest_95 : decode cX7_slowest 95 = .ok (.iload 5, 2) := by decide +kernel
theorem dX7_slowest_97 : decode cX7_slowest 97 = .ok (.istore 5, 2) := by decide +kernel
theorem dX7_slowest_99 : decode cX7_slowest 99 = .ok (.iload 10, 2) := by decide +kernel
theorem dX7_slowest_101 : decode cX7_slowest 101 = .ok (.ifCond .eq 8, 3) := by decide +kernel
theorem dX7_slowest_104 : decode cX7_slowest 104 = .ok (.iload 8, 2) := by decide +kernel
theorem dX7_slowest_106 : decode cX7_slowest 106 = .ok (.goto 5, 3) := by decide +kernel
theorem dX7_slowest_109 : decode cX7_slowest 109 = .ok (.iload 6, 2) := by decide +kernel
theorem dX7_slowest_111 : decode cX7_slowest 111 = .ok (.istore 6, 2) := by decide +kernel
theorem dX7_slowest_113 : decode cX7_slowest 113 = .ok (.iload 10, 2) := by decide +kernel
theorem dX7_slowest_115 : decode cX7_slowest 115 = .ok (.ifCond .eq 8, 3) := by decide +kernel
theorem dX7_slowest_118 : decode cX7_slowest 118 = .ok (.iload 9, 2) := by decide +kernel
theorem dX7_slowest_120 : decode cX7_slowest 120 = .ok (.goto 5, 3) := by decide +kernel
theorem dX7_slowest_123 : decode cX7_slowest 123 = .ok (.iload 4, 2) := by decide +kernel
theorem dX7_slowest_125 : decode cX7_slowest 125 = .ok (.istore 4, 2) := by decide +kernel
theorem dX7_slowest_127 : decode cX7_slowest 127 = .ok (.iinc 8 1, 3) := by decide +kernel
theorem dX7_slowest_130 : decode cX7_slowest 130 = .ok (.goto (-88), 3) := by decide +kernel
theorem dX7_slowest_133 : decode cX7_slowest 133 = .ok (.iinc 7 1, 3) := by decide +kernel
theorem dX7_slowest_136 : decode cX7_slowest 136 = .ok (.goto (-104), 3) := by decide +kernel
theorem dX7_slowest_139 : decode cX7_slowest 139 = .ok (.iload 4, 2) := by decide +kernel
theorem dX7_slowest_141 : decode cX7_slowest 141 = .ok (.ifCond .lt 7, 3) := by decide +kernel
theorem dX7_slowest_144 : decode cX7_slowest 144 = .ok (.iload_n 3, 1) := by decide +kernel
theorem dX7_slowest_145 : decode cX7_slowest 145 = .ok (.ifCond .ne 8, 3) := by decide +kernel
theorem dX7_slowest_148 : decode cX7_slowest 148 = .ok (.iload 4, 2) := by decide +kernel
theorem dX7_slowest_150 : decode cX7_slowest 150 = .ok (.goto 15, 3) := by decide +kernel
theorem dX7_slowest_153 : decode cX7_slowest 153 = .ok (.iload_n 3, 1) := by decide +kernel
theorem dX7_slowest_154 : decode cX7_slowest 154 = .ok (.iconst 1, 1) := by decide +kernel
theorem dX7_slowest_155 : decode cX7_slowest 155 = .ok (.if_icmp .ne 8, 3) := by decide +kernel
theorem dX7_slowest_158 : decode cX7_slowest 158 = .ok (.iload 5, 2) := by decide +kernel
theorem dX7_slowest_160 : decode cX7_slowest 160 = .ok (.goto 5, 3) := by decide +kernel
theorem dX7_slowest_163 : decode cX7_slowest 163 = .ok (.iload 6, 2) := by decide +kernel
theorem dX7_slowest_165 : decode cX7_slowest 165 = .ok (.ireturn, 1) := by decide +kernel
set_option maxRecDepth 20000 in
theorem ggX7_played_X7_in : GoodIn wsX7_played wsX7_in := goodIn_r _ [5] (by decide +kernel) (by decide +kernel)
set_option maxRecDepth 20000 in
theorem gX7_played_X7_in : GoodIn wsX7_played (va_wsS RX7 30 yX7_in wsX7_in) := goodIn_app (goodIn_of _ (by decide +kernel)) ggX7_played_X7_in
theorem dX7_played_0 : decode cX7_played 0 = .ok (.iload_n 1, 1) := by decide +kernel
theorem dX7_played_1 : decode cX7_played 1 = .ok (.ifCond .lt 12, 3) := by decide +kernel
theorem dX7_played_4 : decode cX7_played 4 = .ok (.iload_n 2, 1) := by decide +kernel
theorem dX7_played_5 : decode cX7_played 5 = .ok (.iconst 0, 1) := by decide +kernel
theorem dX7_played_6 : decode cX7_played 6 = .ok (.iconst 2, 1) := by decide +kernel
theorem dX7_played_7 : decode cX7_played 7 = .ok (.invokestatic 30, 3) := by decide +kernel
theorem dX7_played_10 : decode cX7_played 10 = .ok (.ifCond .ne 5, 3) := by decide +kernel
theorem dX7_played_13 : decode cX7_played 13 = .ok (.iconst (-1), 1) := by decide +kernel
theorem dX7_played_14 : decode cX7_played 14 = .ok (.ireturn, 1) := by decide +kernel
theorem dX7_played_15 : decode cX7_played 15 = .ok (.iload_n 1, 1) := by decide +kernel
theorem dX7_played_16 : decode cX7_played 16 = .ok (.aload_n 0, 1) := by decide +kernel
theorem dX7_played_17 : decode cX7_played 17 = .ok (.getfield 7, 3) := by decide +kernel
theorem dX7_played_20 : decode cX7_played 20 = .ok (.iconst 3, 1) := by decide +kernel
theorem dX7_played_21 : decode cX7_played 21 = .ok (.iaload, 1) := by decide +kernel
theorem dX7_played_22 : decode cX7_played 22 = .ok (.if_icmp .ge 19, 3) := by decide +kernel
theorem dX7_played_25 : decode cX7_played 25 = .ok (.aload_n 0, 1) := by decide +kernel
theorem dX7_played_26 : decode cX7_played 26 = .ok (.getfield 7, 3) := by decide +kernel
theorem dX7_played_29 : decode cX7_played 29 = .ok (.bipush 109, 2) := by decide +kernel
theorem dX7_played_31 : decode cX7_played 31 = .ok (.iconst 3, 1) := by decide +kernel
theorem dX7_played_32 : decode cX7_played 32 = .ok (.iload_n 1, 1) := by decide +kernel
theorem dX7_played_33 : decode cX7_played 33 = .ok (.imul, 1) := by decide +kernel
theorem dX7_played_34 : decode cX7_played 34 = .ok (.iadd, 1) := by decide +kernel
theorem dX7_played_35 : decode cX7_played 35 = .ok (.iload_n 2, 1) := by decide +kernel
theorem dX7_played_36 : decode cX7_played 36 = .ok (.iadd, 1) := by decide +kernel
theorem dX7_played_37 : decode cX7_played 37 = .ok (.iaload, 1) := by decide +kernel
theorem dX7_played_38 : decode cX7_played 38 = .ok (.goto 5, 3) := by decide +kernel
theorem dX7_played_41 : decode cX7_played 41 = .ok (.bipush (-4), 2) := by decide +kernel
theorem dX7_played_43 : decode cX7_played 43 = .ok (.ireturn, 1) := by decide +kernel
set_option maxRecDepth 20000 in
theorem ggX7_overStrings_X7_of : GoodIn wsX7_overStrings wsX7_of := goodIn_r _ [5, 6, 30, 31, 32, 33, 34, 35, 36, 37, 38, 39, 40, 41, 42] (by decide +kernel) (by decide +kernel)
set_option maxRecDepth 20000 in
theorem gX7_overStrings_X7_of : GoodIn wsX7_overStrings (wsV RX7 48 RX7 yX7_of wsX7_of) := goodIn_app (goodIn_of _ (by decide +kernel)) ggX7_overStrings_X7_of
set_option maxRecDepth 20000 in
theorem ggX7_overStrings_X7_buzzes : GoodIn wsX7_overStrings wsX7_buzzes := goodIn_r _ [10, 11, 12, 13, 4, 14, 1, 2, 3, 5, 6, 15, 16, 17, 18, 19, 20, 21, 22, 23, 24, 25, 26, 27, 28, 29, 30, 31, 32, 33, 34, 35, 36, 37, 38, 39, 40, 41, 42] (by decide +kernel) (by decide +kernel)
set_option maxRecDepth 20000 in
theorem gX7_overStrings_X7_buzzes : GoodIn wsX7_overStrings (wsV RX7 124 RX7 yX7_buzzes wsX7_buzzes) := goodIn_app (goodIn_of _ (by decide +kernel)) ggX7_overStrings_X7_buzzes
theorem dX7_overStrings_0 : decode cX7_overStrings 0 = .ok (.iconst 0, 1) := by decide +kernel
theorem dX7_overStrings_1 : decode cX7_overStrings 1 = .ok (.istore_n 2, 1) := by decide +kernel
theorem dX7_overStrings_2 : decode cX7_overStrings 2 = .ok (.iconst 0, 1) := by decide +kernel
theorem dX7_overStrings_3 : decode cX7_overStrings 3 = .ok (.istore_n 3, 1) := by decide +kernel
theorem dX7_overStrings_4 : decode cX7_overStrings 4 = .ok (.iload_n 3, 1) := by decide +kernel
theorem dX7_overStrings_5 : decode cX7_overStrings 5 = .ok (.iconst 4, 1) := by decide +kernel
theorem dX7_overStrings_6 : decode cX7_overStrings 6 = .ok (.if_icmp .ge 39, 3) := by decide +kernel
theorem dX7_overStrings_9 : decode cX7_overStrings 9 = .ok (.iload_n 2, 1) := by decide +kernel
theorem dX7_overStrings_10 : decode cX7_overStrings 10 = .ok (.iload_n 1, 1) := by decide +kernel
theorem dX7_overStrings_11 : decode cX7_overStrings 11 = .ok (.iconst 5, 1) := by decide +kernel
theorem dX7_overStrings_12 : decode cX7_overStrings 12 = .ok (.if_icmp .ne 12, 3) := by decide +kernel
theorem dX7_overStrings_15 : decode cX7_overStrings 15 = .ok (.aload_n 0, 1) := by decide +kernel
theorem dX7_overStrings_16 : decode cX7_overStrings 16 = .ok (.iload_n 3, 1) := by decide +kernel
theorem dX7_overStrings_17 : decode cX7_overStrings 17 = .ok (.iconst 3, 1) := by decide +kernel
theorem dX7_overStrings_18 : decode cX7_overStrings 18 = .ok (.invokevirtual 48, 3) := by decide +kernel
theorem dX7_overStrings_21 : decode cX7_overStrings 21 = .ok (.goto 16, 3) := by decide +kernel
theorem dX7_overStrings_24 : decode cX7_overStrings 24 = .ok (.aload_n 0, 1) := by decide +kernel
theorem dX7_overStrings_25 : decode cX7_overStrings 25 = .ok (.iload_n 3, 1) := by decide +kernel
theorem dX7_overStrings_26 : decode cX7_overStrings 26 = .ok (.invokevirtual 124, 3) := by decide +kernel
theorem dX7_overStrings_29 : decode cX7_overStrings 29 = .ok (.ifCond .eq 7, 3) := by decide +kernel
theorem dX7_overStrings_32 : decode cX7_overStrings 32 = .ok (.iconst 1, 1) := by decide +kernel
theorem dX7_overStrings_33 : decode cX7_overStrings 33 = .ok (.goto 4, 3) := by decide +kernel
theorem dX7_overStrings_36 : decode cX7_overStrings 36 = .ok (.iconst 0, 1) := by decide +kernel
theorem dX7_overStrings_37 : decode cX7_overStrings 37 = .ok (.iadd, 1) := by decide +kernel
theorem dX7_overStrings_38 : decode cX7_overStrings 38 = .ok (.istore_n 2, 1) := by decide +kernel
theorem dX7_overStrings_39 : decode cX7_overStrings 39 = .ok (.iinc 3 1, 3) := by decide +kernel
theorem dX7_overStrings_42 : decode cX7_overStrings 42 = .ok (.goto (-38), 3) := by decide +kernel
theorem dX7_overStrings_45 : decode cX7_overStrings 45 = .ok (.iload_n 2, 1) := by decide +kernel
theorem dX7_overStrings_46 : decode cX7_overStrings 46 = .ok (.ireturn, 1) := by decide +kernel
set_option maxRecDepth 20000 in
theorem ggX7_count_X7_heardOnes : GoodIn wsX7_count wsX7_heardOnes := goodIn_r _ [8, 9, 10, 11, 7, 12, 13, 14, 15, 16, 17, 18, 19, 20, 1, 21, 22, 23, 24, 25, 26, 27, 62, 63, 64, 65, 66, 67, 68, 69, 70, 71, 72, 73, 74] (by decide +kernel) (by decide +kernel)
set_option maxRecDepth 20000 in
theorem gX7_count_X7_heardOnes : GoodIn wsX7_count (wsV RX7 164 RX7 yX7_heardOnes wsX7_heardOnes) := goodIn_app (goodIn_of _ (by decide +kernel)) ggX7_count_X7_heardOnes
set_option maxRecDepth 20000 in
theorem ggX7_count_X7_overStrings : GoodIn wsX7_count wsX7_overStrings := goodIn_r _ [31, 32, 33, 34, 7, 35, 1, 36, 37, 38, 39, 40, 41, 42, 43, 44, 45, 46, 47, 48, 49, 50, 51, 52, 53, 54, 55, 56, 57, 58, 62, 63, 64, 65, 66, 67, 68, 69, 70, 71, 72, 73, 74] (by decide +kernel) (by decide +kernel)
set_option maxRecDepth 20000 in
theorem gX7_count_X7_overStrings : GoodIn wsX7_count (wsV RX7 175 RX7 yX7_overStrings wsX7_overStrings) := goodIn_app (goodIn_of _ (by decide +kernel)) ggX7_count_X7_overStrings
set_option maxRecDepth 20000 in
theorem ggX7_count_X7_in : GoodIn wsX7_count wsX7_in := goodIn_r _ [61] (by decide +kernel) (by decide +kernel)
set_option maxRecDepth 20000 in
theorem gX7_count_X7_in : GoodIn wsX7_count (va_wsS RX7 30 yX7_in wsX7_in) := goodIn_app (goodIn_of _ (by decide +kernel)) ggX7_count_X7_in
set_option maxRecDepth 20000 in
theorem ggX7_count_X7_setting : GoodIn wsX7_count wsX7_setting := goodIn_r _ [24, 1, 62, 63, 64, 65, 66, 67, 68, 69, 70, 71, 72, 73, 74] (by decide +kernel) (by decide +kernel)
set_option maxRecDepth 20000 in
theorem gX7_count_X7_setting : GoodIn wsX7_count (wsV RX7 102 RX7 yX7_setting wsX7_setting) := goodIn_app (goodIn_of _ (by decide +kernel)) ggX7_count_X7_setting
theorem dX7_count_0 : decode cX7_count 0 = .ok (.iload_n 1, 1) := by decide +kernel
theorem dX7_count_1 : decode cX7_count 1 = .ok (.tableswitch 113 0 13 #[71, 71, 78, 83, 89, 83, 96, 113, 113, 113, 113, 113, 103, 108], 71) := by decide +kernel
theorem dX7_count_72 : decode cX7_count 72 = .ok (.aload_n 0, 1) := by decide +kernel
theorem dX7_count_73 : decode cX7_count 73 = .ok (.getfield 7, 3) := by decide +kernel
theorem dX7_count_76 : decode cX7_count 76 = .ok (.iload_n 1, 1) := by decide +kernel
theorem dX7_count_77 : decode cX7_count 77 = .ok (.iaload, 1) := by decide +kernel
theorem dX7_count_78 : decode cX7_count 78 = .ok (.ireturn, 1) := by decide +kernel
theorem dX7_count_79 : decode cX7_count 79 = .ok (.aload_n 0, 1) := by decide +kernel
theorem dX7_count_80 : decode cX7_count 80 = .ok (.invokevirtual 164, 3) := by decide +kernel
theorem dX7_count_83 : decode cX7_count 83 = .ok (.ireturn, 1) := by decide +kernel
theorem dX7_count_84 : decode cX7_count 84 = .ok (.aload_n 0, 1) := by decide +kernel
theorem dX7_count_85 : decode cX7_count 85 = .ok (.iload_n 1, 1) := by decide +kernel
theorem dX7_count_86 : decode cX7_count 86 = .ok (.invokevirtual 175, 3) := by decide +kernel
theorem dX7_count_89 : decode cX7_count 89 = .ok (.ireturn, 1) := by decide +kernel
theorem dX7_count_90 : decode cX7_count 90 = .ok (.aload_n 0, 1) := by decide +kernel
theorem dX7_count_91 : decode cX7_count 91 = .ok (.getfield 7, 3) := by decide +kernel
theorem dX7_count_94 : decode cX7_count 94 = .ok (.iconst 3, 1) := by decide +kernel
theorem dX7_count_95 : decode cX7_count 95 = .ok (.iaload, 1) := by decide +kernel
theorem dX7_count_96 : decode cX7_count 96 = .ok (.ireturn, 1) := by decide +kernel
theorem dX7_count_97 : decode cX7_count 97 = .ok (.aload_n 0, 1) := by decide +kernel
theorem dX7_count_98 : decode cX7_count 98 = .ok (.getfield 7, 3) := by decide +kernel
theorem dX7_count_101 : decode cX7_count 101 = .ok (.iconst 2, 1) := by decide +kernel
theorem dX7_count_102 : decode cX7_count 102 = .ok (.iaload, 1) := by decide +kernel
theorem dX7_count_103 : decode cX7_count 103 = .ok (.ireturn, 1) := by decide +kernel
theorem dX7_count_104 : decode cX7_count 104 = .ok (.aload_n 0, 1) := by decide +kernel
theorem dX7_count_105 : decode cX7_count 105 = .ok (.getfield 34, 3) := by decide +kernel
theorem dX7_count_108 : decode cX7_count 108 = .ok (.ireturn, 1) := by decide +kernel
theorem dX7_count_109 : decode cX7_count 109 = .ok (.aload_n 0, 1) := by decide +kernel
theorem dX7_count_110 : decode cX7_count 110 = .ok (.getfield 178, 3) := by decide +kernel
theorem dX7_count_113 : decode cX7_count 113 = .ok (.ireturn, 1) := by decide +kernel
theorem dX7_count_114 : decode cX7_count 114 = .ok (.iload_n 1, 1) := by decide +kernel
theorem dX7_count_115 : decode cX7_count 115 = .ok (.bipush 7, 2) := by decide +kernel
theorem dX7_count_117 : decode cX7_count 117 = .ok (.bipush 11, 2) := by decide +kernel
theorem dX7_count_119 : decode cX7_count 119 = .ok (.invokestatic 30, 3) := by decide +kernel
theorem dX7_count_122 : decode cX7_count 122 = .ok (.ifCond .eq 14, 3) := by decide +kernel
theorem dX7_count_125 : decode cX7_count 125 = .ok (.aload_n 0, 1) := by decide +kernel
theorem dX7_count_126 : decode cX7_count 126 = .ok (.iload_n 1, 1) := by decide +kernel
theorem dX7_count_127 : decode cX7_count 127 = .ok (.bipush 7, 2) := by decide +kernel
theorem dX7_count_129 : decode cX7_count 129 = .ok (.isub, 1) := by decide +kernel
theorem dX7_count_130 : decode cX7_count 130 = .ok (.invokevirtual 102, 3) := by decide +kernel
theorem dX7_count_133 : decode cX7_count 133 = .ok (.goto 4, 3) := by decide +kernel
theorem dX7_count_136 : decode cX7_count 136 = .ok (.iconst (-1), 1) := by decide +kernel
theorem dX7_count_137 : decode cX7_count 137 = .ok (.ireturn, 1) := by decide +kernel
set_option maxRecDepth 20000 in
theorem ggX7_type_X7_in : GoodIn wsX7_type wsX7_in := goodIn_r _ [6] (by decide +kernel) (by decide +kernel)
set_option maxRecDepth 20000 in
theorem gX7_type_X7_in : GoodIn wsX7_type (va_wsS RX7 30 yX7_in wsX7_in) := goodIn_app (goodIn_of _ (by decide +kernel)) ggX7_type_X7_in
theorem dX7_type_0 : decode cX7_type 0 = .ok (.iload_n 1, 1) := by decide +kernel
theorem dX7_type_1 : decode cX7_type 1 = .ok (.bipush 32, 2) := by decide +kernel
theorem dX7_type_3 : decode cX7_type 3 = .ok (.bipush 126, 2) := by decide +kernel
theorem dX7_type_5 : decode cX7_type 5 = .ok (.invokestatic 30, 3) := by decide +kernel
theorem dX7_type_8 : decode cX7_type 8 = .ok (.ifCond .ne 5, 3) := by decide +kernel
theorem dX7_type_11 : decode cX7_type 11 = .ok (.iconst (-1), 1) := by decide +kernel
theorem dX7_type_12 : decode cX7_type 12 = .ok (.ireturn, 1) := by decide +kernel
theorem dX7_type_13 : decode cX7_type 13 = .ok (.aload_n 0, 1) := by decide +kernel
theorem dX7_type_14 : decode cX7_type 14 = .ok (.getfield 178, 3) := by decide +kernel
theorem dX7_type_17 : decode cX7_type 17 = .ok (.bipush 80, 2) := by decide +kernel
theorem dX7_type_19 : decode cX7_type 19 = .ok (.if_icmp .ne 6, 3) := by decide +kernel
theorem dX7_type_22 : decode cX7_type 22 = .ok (.bipush (-3), 2) := by decide +kernel
theorem dX7_type_24 : decode cX7_type 24 = .ok (.ireturn, 1) := by decide +kernel
theorem dX7_type_25 : decode cX7_type 25 = .ok (.aload_n 0, 1) := by decide +kernel
theorem dX7_type_26 : decode cX7_type 26 = .ok (.getfield 16, 3) := by decide +kernel
theorem dX7_type_29 : decode cX7_type 29 = .ok (.aload_n 0, 1) := by decide +kernel
theorem dX7_type_30 : decode cX7_type 30 = .ok (.getfield 178, 3) := by decide +kernel
theorem dX7_type_33 : decode cX7_type 33 = .ok (.iload_n 1, 1) := by decide +kernel
theorem dX7_type_34 : decode cX7_type 34 = .ok (.iastore, 1) := by decide +kernel
theorem dX7_type_35 : decode cX7_type 35 = .ok (.aload_n 0, 1) := by decide +kernel
theorem dX7_type_36 : decode cX7_type 36 = .ok (.dup, 1) := by decide +kernel
theorem dX7_type_37 : decode cX7_type 37 = .ok (.getfield 178, 3) := by decide +kernel
theorem dX7_type_40 : decode cX7_type 40 = .ok (.iconst 1, 1) := by decide +kernel
theorem dX7_type_41 : decode cX7_type 41 = .ok (.iadd, 1) := by decide +kernel
theorem dX7_type_42 : decode cX7_type 42 = .ok (.putfield 178, 3) := by decide +kernel
theorem dX7_type_45 : decode cX7_type 45 = .ok (.aload_n 0, 1) := by decide +kernel
theorem dX7_type_46 : decode cX7_type 46 = .ok (.getfield 178, 3) := by decide +kernel
theorem dX7_type_49 : decode cX7_type 49 = .ok (.ireturn, 1) := by decide +kernel
theorem dX7_clearText_0 : decode cX7_clearText 0 = .ok (.aload_n 0, 1) := by decide +kernel
theorem dX7_clearText_1 : decode cX7_clearText 1 = .ok (.getfield 178, 3) := by decide +kernel
theorem dX7_clearText_4 : decode cX7_clearText 4 = .ok (.istore_n 1, 1) := by decide +kernel
theorem dX7_clearText_5 : decode cX7_clearText 5 = .ok (.aload_n 0, 1) := by decide +kernel
theorem dX7_clearText_6 : decode cX7_clearText 6 = .ok (.iconst 0, 1) := by decide +kernel
theorem dX7_clearText_7 : decode cX7_clearText 7 = .ok (.putfield 178, 3) := by decide +kernel
theorem dX7_clearText_10 : decode cX7_clearText 10 = .ok (.iload_n 1, 1) := by decide +kernel
theorem dX7_clearText_11 : decode cX7_clearText 11 = .ok (.ireturn, 1) := by decide +kernel
theorem dX7_takes_0 : decode cX7_takes 0 = .ok (.aload_n 0, 1) := by decide +kernel
theorem dX7_takes_1 : decode cX7_takes 1 = .ok (.getfield 181, 3) := by decide +kernel
theorem dX7_takes_4 : decode cX7_takes 4 = .ok (.aload_n 0, 1) := by decide +kernel
theorem dX7_takes_5 : decode cX7_takes 5 = .ok (.getfield 178, 3) := by decide +kernel
theorem dX7_takes_8 : decode cX7_takes 8 = .ok (.if_icmp .ge 20, 3) := by decide +kernel
theorem dX7_takes_11 : decode cX7_takes 11 = .ok (.aload_n 0, 1) := by decide +kernel
theorem dX7_takes_12 : decode cX7_takes 12 = .ok (.getfield 16, 3) := by decide +kernel
theorem dX7_takes_15 : decode cX7_takes 15 = .ok (.aload_n 0, 1) := by decide +kernel
theorem dX7_takes_16 : decode cX7_takes 16 = .ok (.getfield 181, 3) := by decide +kernel
theorem dX7_takes_19 : decode cX7_takes 19 = .ok (.iaload, 1) := by decide +kernel
theorem dX7_takes_20 : decode cX7_takes 20 = .ok (.iload_n 1, 1) := by decide +kernel
theorem dX7_takes_21 : decode cX7_takes 21 = .ok (.if_icmp .ne 7, 3) := by decide +kernel
theorem dX7_takes_24 : decode cX7_takes 24 = .ok (.iconst 1, 1) := by decide +kernel
theorem dX7_takes_25 : decode cX7_takes 25 = .ok (.goto 4, 3) := by decide +kernel
theorem dX7_takes_28 : decode cX7_takes 28 = .ok (.iconst 0, 1) := by decide +kernel
theorem dX7_takes_29 : decode cX7_takes 29 = .ok (.istore_n 2, 1) := by decide +kernel
theorem dX7_takes_30 : decode cX7_takes 30 = .ok (.aload_n 0, 1) := by decide +kernel
theorem dX7_takes_31 : decode cX7_takes 31 = .ok (.dup, 1) := by decide +kernel
theorem dX7_takes_32 : decode cX7_takes 32 = .ok (.getfield 181, 3) := by decide +kernel
theorem dX7_takes_35 : decode cX7_takes 35 = .ok (.iload_n 2, 1) := by decide +kernel
theorem dX7_takes_36 : decode cX7_takes 36 = .ok (.ifCond .eq 7, 3) := by decide +kernel
theorem dX7_takes_39 : decode cX7_takes 39 = .ok (.iconst 1, 1) := by decide +kernel
theorem dX7_takes_40 : decode cX7_takes 40 = .ok (.goto 4, 3) := by decide +kernel
theorem dX7_takes_43 : decode cX7_takes 43 = .ok (.iconst 0, 1) := by decide +kernel
theorem dX7_takes_44 : decode cX7_takes 44 = .ok (.iadd, 1) := by decide +kernel
theorem dX7_takes_45 : decode cX7_takes 45 = .ok (.putfield 181, 3) := by decide +kernel
theorem dX7_takes_48 : decode cX7_takes 48 = .ok (.iload_n 2, 1) := by decide +kernel
theorem dX7_takes_49 : decode cX7_takes 49 = .ok (.ireturn, 1) := by decide +kernel
set_option maxRecDepth 20000 in
theorem ggX7_digits_X7_in : GoodIn wsX7_digits wsX7_in := goodIn_r _ [7] (by decide +kernel) (by decide +kernel)
set_option maxRecDepth 20000 in
theorem gX7_digits_X7_in : GoodIn wsX7_digits (va_wsS RX7 30 yX7_in wsX7_in) := goodIn_app (goodIn_of _ (by decide +kernel)) ggX7_digits_X7_in
theorem dX7_digits_0 : decode cX7_digits 0 = .ok (.iconst 0, 1) := by decide +kernel
theorem dX7_digits_1 : decode cX7_digits 1 = .ok (.istore_n 2, 1) := by decide +kernel
theorem dX7_digits_2 : decode cX7_digits 2 = .ok (.aload_n 0, 1) := by decide +kernel
theorem dX7_digits_3 : decode cX7_digits 3 = .ok (.getfield 181, 3) := by decide +kernel
theorem dX7_digits_6 : decode cX7_digits 6 = .ok (.istore_n 3, 1) := by decide +kernel
theorem dX7_digits_7 : decode cX7_digits 7 = .ok (.aload_n 0, 1) := by decide +kernel
theorem dX7_digits_8 : decode cX7_digits 8 = .ok (.getfield 181, 3) := by decide +kernel
theorem dX7_digits_11 : decode cX7_digits 11 = .ok (.iload_n 3, 1) := by decide +kernel
theorem dX7_digits_12 : decode cX7_digits 12 = .ok (.iload_n 1, 1) := by decide +kernel
theorem dX7_digits_13 : decode cX7_digits 13 = .ok (.iadd, 1) := by decide +kernel
theorem dX7_digits_14 : decode cX7_digits 14 = .ok (.if_icmp .ge 64, 3) := by decide +kernel
theorem dX7_digits_17 : decode cX7_digits 17 = .ok (.aload_n 0, 1) := by decide +kernel
theorem dX7_digits_18 : decode cX7_digits 18 = .ok (.getfield 181, 3) := by decide +kernel
theorem dX7_digits_21 : decode cX7_digits 21 = .ok (.aload_n 0, 1) := by decide +kernel
theorem dX7_digits_22 : decode cX7_digits 22 = .ok (.getfield 178, 3) := by decide +kernel
theorem dX7_digits_25 : decode cX7_digits 25 = .ok (.if_icmp .ge 53, 3) := by decide +kernel
theorem dX7_digits_28 : decode cX7_digits 28 = .ok (.aload_n 0, 1) := by decide +kernel
theorem dX7_digits_29 : decode cX7_digits 29 = .ok (.getfield 16, 3) := by decide +kernel
theorem dX7_digits_32 : decode cX7_digits 32 = .ok (.aload_n 0, 1) := by decide +kernel
theorem dX7_digits_33 : decode cX7_digits 33 = .ok (.getfield 181, 3) := by decide +kernel
theorem dX7_digits_36 : decode cX7_digits 36 = .ok (.iaload, 1) := by decide +kernel
theorem dX7_digits_37 : decode cX7_digits 37 = .ok (.bipush 48, 2) := by decide +kernel
theorem dX7_digits_39 : decode cX7_digits 39 = .ok (.bipush 57, 2) := by decide +kernel
theorem dX7_digits_41 : decode cX7_digits 41 = .ok (.invokestatic 30, 3) := by decide +kernel
theorem dX7_digits_44 : decode cX7_digits 44 = .ok (.ifCond .eq 34, 3) := by decide +kernel
theorem dX7_digits_47 : decode cX7_digits 47 = .ok (.bipush 10, 2) := by decide +kernel
theorem dX7_digits_49 : decode cX7_digits 49 = .ok (.iload_n 2, 1) := by decide +kernel
theorem dX7_digits_50 : decode cX7_digits 50 = .ok (.imul, 1) := by decide +kernel
theorem dX7_digits_51 : decode cX7_digits 51 = .ok (.aload_n 0, 1) := by decide +kernel
theorem dX7_digits_52 : decode cX7_digits 52 = .ok (.getfield 16, 3) := by decide +kernel
theorem dX7_digits_55 : decode cX7_digits 55 = .ok (.aload_n 0, 1) := by decide +kernel
theorem dX7_digits_56 : decode cX7_digits 56 = .ok (.getfield 181, 3) := by decide +kernel
theorem dX7_digits_59 : decode cX7_digits 59 = .ok (.iaload, 1) := by decide +kernel
theorem dX7_digits_60 : decode cX7_digits 60 = .ok (.iadd, 1) := by decide +kernel
theorem dX7_digits_61 : decode cX7_digits 61 = .ok (.bipush 48, 2) := by decide +kernel
theorem dX7_digits_63 : decode cX7_digits 63 = .ok (.isub, 1) := by decide +kernel
theorem dX7_digits_64 : decode cX7_digits 64 = .ok (.istore_n 2, 1) := by decide +kernel
theorem dX7_digits_65 : decode cX7_digits 65 = .ok (.aload_n 0, 1) := by decide +kernel
theorem dX7_digits_66 : decode cX7_digits 66 = .ok (.dup, 1) := by decide +kernel
theorem dX7_digits_67 : decode cX7_digits 67 = .ok (.getfield 181, 3) := by decide +kernel
theorem dX7_digits_70 : decode cX7_digits 70 = .ok (.iconst 1, 1) := by decide +kernel
theorem dX7_digits_71 : decode cX7_digits 71 = .ok (.iadd, 1) := by decide +kernel
theorem dX7_digits_72 : decode cX7_digits 72 = .ok (.putfield 181, 3) := by decide +kernel
theorem dX7_digits_75 : decode cX7_digits 75 = .ok (.goto (-68), 3) := by decide +kernel
theorem dX7_digits_78 : decode cX7_digits 78 = .ok (.aload_n 0, 1) := by decide +kernel
theorem dX7_digits_79 : decode cX7_digits 79 = .ok (.getfield 181, 3) := by decide +kernel
theorem dX7_digits_82 : decode cX7_digits 82 = .ok (.iload_n 3, 1) := by decide +kernel
theorem dX7_digits_83 : decode cX7_digits 83 = .ok (.if_icmp .ne 7, 3) := by decide +kernel
theorem dX7_digits_86 : decode cX7_digits 86 = .ok (.iconst (-1), 1) := by decide +kernel
theorem dX7_digits_87 : decode cX7_digits 87 = .ok (.goto 4, 3) := by decide +kernel
theorem dX7_digits_90 : decode cX7_digits 90 = .ok (.iload_n 2, 1) := by decide +kernel
theorem dX7_digits_91 : decode cX7_digits 91 = .ok (.ireturn, 1) := by decide +kernel
set_option maxRecDepth 20000 in
theorem ggX7_isFormed_X7_digits : GoodIn wsX7_isFormed wsX7_digits := goodIn_r _ [10, 11, 12, 13, 14, 15, 9, 16, 24, 25, 26, 27, 28, 29, 30, 31, 32, 33, 34, 35, 36] (by decide +kernel) (by decide +kernel)
set_option maxRecDepth 20000 in
theorem gX7_isFormed_X7_digits : GoodIn wsX7_isFormed (wsV RX7 187 RX7 yX7_digits wsX7_digits) := goodIn_app (goodIn_of _ (by decide +kernel)) ggX7_isFormed_X7_digits
set_option maxRecDepth 20000 in
theorem ggX7_isFormed_X7_isString : GoodIn wsX7_isFormed wsX7_isString := goodIn_r _ [19, 14, 15, 9, 16] (by decide +kernel) (by decide +kernel)
set_option maxRecDepth 20000 in
theorem gX7_isFormed_X7_isString : GoodIn wsX7_isFormed (va_wsS RX7 88 yX7_isString wsX7_isString) := goodIn_app (goodIn_of _ (by decide +kernel)) ggX7_isFormed_X7_isString
set_option maxRecDepth 20000 in
theorem ggX7_isFormed_X7_takes : GoodIn wsX7_isFormed wsX7_takes := goodIn_r _ [23, 11, 12, 13, 24, 25, 26, 27, 28, 29, 30, 31, 32, 33, 34, 35, 36] (by decide +kernel) (by decide +kernel)
set_option maxRecDepth 20000 in
theorem gX7_isFormed_X7_takes : GoodIn wsX7_isFormed (wsV RX7 193 RX7 yX7_takes wsX7_takes) := goodIn_app (goodIn_of _ (by decide +kernel)) ggX7_isFormed_X7_takes
theorem dX7_isFormed_0 : decode cX7_isFormed 0 = .ok (.aload_n 0, 1) := by decide +kernel
theorem dX7_isFormed_1 : decode cX7_isFormed 1 = .ok (.iconst 0, 1) := by decide +kernel
theorem dX7_isFormed_2 : decode cX7_isFormed 2 = .ok (.putfield 184, 3) := by decide +kernel
theorem dX7_isFormed_5 : decode cX7_isFormed 5 = .ok (.aload_n 0, 1) := by decide +kernel
theorem dX7_isFormed_6 : decode cX7_isFormed 6 = .ok (.aload_n 0, 1) := by decide +kernel
theorem dX7_isFormed_7 : decode cX7_isFormed 7 = .ok (.iconst 1, 1) := by decide +kernel
theorem dX7_isFormed_8 : decode cX7_isFormed 8 = .ok (.invokevirtual 187, 3) := by decide +kernel
theorem dX7_isFormed_11 : decode cX7_isFormed 11 = .ok (.putfield 190, 3) := by decide +kernel
theorem dX7_isFormed_14 : decode cX7_isFormed 14 = .ok (.aload_n 0, 1) := by decide +kernel
theorem dX7_isFormed_15 : decode cX7_isFormed 15 = .ok (.getfield 190, 3) := by decide +kernel
theorem dX7_isFormed_18 : decode cX7_isFormed 18 = .ok (.invokestatic 88, 3) := by decide +kernel
theorem dX7_isFormed_21 : decode cX7_isFormed 21 = .ok (.ifCond .eq 12, 3) := by decide +kernel
theorem dX7_isFormed_24 : decode cX7_isFormed 24 = .ok (.aload_n 0, 1) := by decide +kernel
theorem dX7_isFormed_25 : decode cX7_isFormed 25 = .ok (.bipush 58, 2) := by decide +kernel
theorem dX7_isFormed_27 : decode cX7_isFormed 27 = .ok (.invokevirtual 193, 3) := by decide +kernel
theorem dX7_isFormed_30 : decode cX7_isFormed 30 = .ok (.ifCond .ne 5, 3) := by decide +kernel
theorem dX7_isFormed_33 : decode cX7_isFormed 33 = .ok (.iconst 0, 1) := by decide +kernel
theorem dX7_isFormed_34 : decode cX7_isFormed 34 = .ok (.ireturn, 1) := by decide +kernel
theorem dX7_isFormed_35 : decode cX7_isFormed 35 = .ok (.aload_n 0, 1) := by decide +kernel
theorem dX7_isFormed_36 : decode cX7_isFormed 36 = .ok (.aload_n 0, 1) := by decide +kernel
theorem dX7_isFormed_37 : decode cX7_isFormed 37 = .ok (.iconst 2, 1) := by decide +kernel
theorem dX7_isFormed_38 : decode cX7_isFormed 38 = .ok (.invokevirtual 187, 3) := by decide +kernel
theorem dX7_isFormed_41 : decode cX7_isFormed 41 = .ok (.putfield 196, 3) := by decide +kernel
theorem dX7_isFormed_44 : decode cX7_isFormed 44 = .ok (.aload_n 0, 1) := by decide +kernel
theorem dX7_isFormed_45 : decode cX7_isFormed 45 = .ok (.getfield 196, 3) := by decide +kernel
theorem dX7_isFormed_48 : decode cX7_isFormed 48 = .ok (.ifCond .lt 12, 3) := by decide +kernel
theorem dX7_isFormed_51 : decode cX7_isFormed 51 = .ok (.aload_n 0, 1) := by decide +kernel
theorem dX7_isFormed_52 : decode cX7_isFormed 52 = .ok (.bipush 33, 2) := by decide +kernel
theorem dX7_isFormed_54 : decode cX7_isFormed 54 = .ok (.invokevirtual 193, 3) := by decide +kernel
theorem dX7_isFormed_57 : decode cX7_isFormed 57 = .ok (.ifCond .ne 5, 3) := by decide +kernel
theorem dX7_isFormed_60 : decode cX7_isFormed 60 = .ok (.iconst 0, 1) := by decide +kernel
theorem dX7_isFormed_61 : decode cX7_isFormed 61 = .ok (.ireturn, 1) := by decide +kernel
theorem dX7_isFormed_62 : decode cX7_isFormed 62 = .ok (.aload_n 0, 1) := by decide +kernel
theorem dX7_isFormed_63 : decode cX7_isFormed 63 = .ok (.aload_n 0, 1) := by decide +kernel
theorem dX7_isFormed_64 : decode cX7_isFormed 64 = .ok (.iconst 4, 1) := by decide +kernel
theorem dX7_isFormed_65 : decode cX7_isFormed 65 = .ok (.invokevirtual 187, 3) := by decide +kernel
theorem dX7_isFormed_68 : decode cX7_isFormed 68 = .ok (.putfield 199, 3) := by decide +kernel
theorem dX7_isFormed_71 : decode cX7_isFormed 71 = .ok (.aload_n 0, 1) := by decide +kernel
theorem dX7_isFormed_72 : decode cX7_isFormed 72 = .ok (.getfield 199, 3) := by decide +kernel
theorem dX7_isFormed_75 : decode cX7_isFormed 75 = .ok (.ifCond .ge 5, 3) := by decide +kernel
theorem dX7_isFormed_78 : decode cX7_isFormed 78 = .ok (.iconst 0, 1) := by decide +kernel
theorem dX7_isFormed_79 : decode cX7_isFormed 79 = .ok (.ireturn, 1) := by decide +kernel
theorem dX7_isFormed_80 : decode cX7_isFormed 80 = .ok (.aload_n 0, 1) := by decide +kernel
theorem dX7_isFormed_81 : decode cX7_isFormed 81 = .ok (.aload_n 0, 1) := by decide +kernel
theorem dX7_isFormed_82 : decode cX7_isFormed 82 = .ok (.bipush 43, 2) := by decide +kernel
theorem dX7_isFormed_84 : decode cX7_isFormed 84 = .ok (.invokevirtual 193, 3) := by decide +kernel
theorem dX7_isFormed_87 : decode cX7_isFormed 87 = .ok (.putfield 202, 3) := by decide +kernel
theorem dX7_isFormed_90 : decode cX7_isFormed 90 = .ok (.aload_n 0, 1) := by decide +kernel
theorem dX7_isFormed_91 : decode cX7_isFormed 91 = .ok (.getfield 202, 3) := by decide +kernel
theorem dX7_isFormed_94 : decode cX7_isFormed 94 = .ok (.ifCond .eq 12, 3) := by decide +kernel
theorem dX7_isFormed_97 : decode cX7_isFormed 97 = .ok (.aload_n 0, 1) := by decide +kernel
theorem dX7_isFormed_98 : decode cX7_isFormed 98 = .ok (.aload_n 0, 1) := by decide +kernel
theorem dX7_isFormed_99 : decode cX7_isFormed 99 = .ok (.iconst 3, 1) := by decide +kernel
theorem dX7_isFormed_100 : decode cX7_isFormed 100 = .ok (.invokevirtual 187, 3) := by decide +kernel
theorem dX7_isFormed_103 : decode cX7_isFormed 103 = .ok (.putfield 184, 3) := by decide +kernel
theorem dX7_isFormed_106 : decode cX7_isFormed 106 = .ok (.aload_n 0, 1) := by decide +kernel
theorem dX7_isFormed_107 : decode cX7_isFormed 107 = .ok (.getfield 184, 3) := by decide +kernel
theorem dX7_isFormed_110 : decode cX7_isFormed 110 = .ok (.ifCond .lt 16, 3) := by decide +kernel
theorem dX7_isFormed_113 : decode cX7_isFormed 113 = .ok (.aload_n 0, 1) := by decide +kernel
theorem dX7_isFormed_114 : decode cX7_isFormed 114 = .ok (.bipush 59, 2) := by decide +kernel
theorem dX7_isFormed_116 : decode cX7_isFormed 116 = .ok (.invokevirtual 193, 3) := by decide +kernel
theorem dX7_isFormed_119 : decode cX7_isFormed 119 = .ok (.ifCond .eq 7, 3) := by decide +kernel
theorem dX7_isFormed_122 : decode cX7_isFormed 122 = .ok (.iconst 1, 1) := by decide +kernel
theorem dX7_isFormed_123 : decode cX7_isFormed 123 = .ok (.goto 4, 3) := by decide +kernel
theorem dX7_isFormed_126 : decode cX7_isFormed 126 = .ok (.iconst 0, 1) := by decide +kernel
theorem dX7_isFormed_127 : decode cX7_isFormed 127 = .ok (.ireturn, 1) := by decide +kernel
set_option maxRecDepth 20000 in
theorem ggX7_reasonOfText_X7_isFormed : GoodIn wsX7_reasonOfText wsX7_isFormed := goodIn_r _ [14, 8, 15, 5, 6, 7, 16, 17, 18, 13, 19, 1, 3, 20, 21, 22, 23, 24, 25, 26, 27, 28, 29, 30, 31, 32, 33, 34, 35, 36, 37, 38, 39, 40, 41, 42, 43] (by decide +kernel) (by decide +kernel)
set_option maxRecDepth 20000 in
theorem gX7_reasonOfText_X7_isFormed : GoodIn wsX7_reasonOfText (wsV RX7 209 RX7 yX7_isFormed wsX7_isFormed) := goodIn_app (goodIn_of _ (by decide +kernel)) ggX7_reasonOfText_X7_isFormed
set_option maxRecDepth 20000 in
theorem ggX7_reasonOfText_X7_in : GoodIn wsX7_reasonOfText wsX7_in := goodIn_r _ [23] (by decide +kernel) (by decide +kernel)
set_option maxRecDepth 20000 in
theorem gX7_reasonOfText_X7_in : GoodIn wsX7_reasonOfText (va_wsS RX7 30 yX7_in wsX7_in) := goodIn_app (goodIn_of _ (by decide +kernel)) ggX7_reasonOfText_X7_in
theorem dX7_reasonOfText_0 : decode cX7_reasonOfText 0 = .ok (.aload_n 0, 1) := by decide +kernel
theorem dX7_reasonOfText_1 : decode cX7_reasonOfText 1 = .ok (.iconst 0, 1) := by decide +kernel
theorem dX7_reasonOfText_2 : decode cX7_reasonOfText 2 = .ok (.putfield 181, 3) := by decide +kernel
theorem dX7_reasonOfText_5 : decode cX7_reasonOfText 5 = .ok (.aload_n 0, 1) := by decide +kernel
theorem dX7_reasonOfText_6 : decode cX7_reasonOfText 6 = .ok (.getfield 7, 3) := by decide +kernel
theorem dX7_reasonOfText_9 : decode cX7_reasonOfText 9 = .ok (.iconst 1, 1) := by decide +kernel
theorem dX7_reasonOfText_10 : decode cX7_reasonOfText 10 = .ok (.iaload, 1) := by decide +kernel
theorem dX7_reasonOfText_11 : decode cX7_reasonOfText 11 = .ok (.istore_n 1, 1) := by decide +kernel
theorem dX7_reasonOfText_12 : decode cX7_reasonOfText 12 = .ok (.aload_n 0, 1) := by decide +kernel
theorem dX7_reasonOfText_13 : decode cX7_reasonOfText 13 = .ok (.getfield 181, 3) := by decide +kernel
theorem dX7_reasonOfText_16 : decode cX7_reasonOfText 16 = .ok (.aload_n 0, 1) := by decide +kernel
theorem dX7_reasonOfText_17 : decode cX7_reasonOfText 17 = .ok (.getfield 178, 3) := by decide +kernel
theorem dX7_reasonOfText_20 : decode cX7_reasonOfText 20 = .ok (.if_icmp .ge 87, 3) := by decide +kernel
theorem dX7_reasonOfText_23 : decode cX7_reasonOfText 23 = .ok (.aload_n 0, 1) := by decide +kernel
theorem dX7_reasonOfText_24 : decode cX7_reasonOfText 24 = .ok (.aload_n 0, 1) := by decide +kernel
theorem dX7_reasonOfText_25 : decode cX7_reasonOfText 25 = .ok (.getfield 181, 3) := by decide +kernel
theorem dX7_reasonOfText_28 : decode cX7_reasonOfText 28 = .ok (.putfield 206, 3) := by decide +kernel
theorem dX7_reasonOfText_31 : decode cX7_reasonOfText 31 = .ok (.aload_n 0, 1) := by decide +kernel
theorem dX7_reasonOfText_32 : decode cX7_reasonOfText 32 = .ok (.invokevirtual 209, 3) := by decide +kernel
theorem dX7_reasonOfText_35 : decode cX7_reasonOfText 35 = .ok (.ifCond .ne 5, 3) := by decide +kernel
theorem dX7_reasonOfText_38 : decode cX7_reasonOfText 38 = .ok (.iconst 1, 1) := by decide +kernel
theorem dX7_reasonOfText_39 : decode cX7_reasonOfText 39 = .ok (.ireturn, 1) := by decide +kernel
theorem dX7_reasonOfText_40 : decode cX7_reasonOfText 40 = .ok (.aload_n 0, 1) := by decide +kernel
theorem dX7_reasonOfText_41 : decode cX7_reasonOfText 41 = .ok (.getfield 196, 3) := by decide +kernel
theorem dX7_reasonOfText_44 : decode cX7_reasonOfText 44 = .ok (.aload_n 0, 1) := by decide +kernel
theorem dX7_reasonOfText_45 : decode cX7_reasonOfText 45 = .ok (.getfield 7, 3) := by decide +kernel
theorem dX7_reasonOfText_48 : decode cX7_reasonOfText 48 = .ok (.iconst 0, 1) := by decide +kernel
theorem dX7_reasonOfText_49 : decode cX7_reasonOfText 49 = .ok (.iaload, 1) := by decide +kernel
theorem dX7_reasonOfText_50 : decode cX7_reasonOfText 50 = .ok (.if_icmp .le 5, 3) := by decide +kernel
theorem dX7_reasonOfText_53 : decode cX7_reasonOfText 53 = .ok (.iconst 2, 1) := by decide +kernel
theorem dX7_reasonOfText_54 : decode cX7_reasonOfText 54 = .ok (.ireturn, 1) := by decide +kernel
theorem dX7_reasonOfText_55 : decode cX7_reasonOfText 55 = .ok (.aload_n 0, 1) := by decide +kernel
theorem dX7_reasonOfText_56 : decode cX7_reasonOfText 56 = .ok (.getfield 199, 3) := by decide +kernel
theorem dX7_reasonOfText_59 : decode cX7_reasonOfText 59 = .ok (.iconst 1, 1) := by decide +kernel
theorem dX7_reasonOfText_60 : decode cX7_reasonOfText 60 = .ok (.sipush 1000, 3) := by decide +kernel
theorem dX7_reasonOfText_63 : decode cX7_reasonOfText 63 = .ok (.invokestatic 30, 3) := by decide +kernel
theorem dX7_reasonOfText_66 : decode cX7_reasonOfText 66 = .ok (.ifCond .eq 24, 3) := by decide +kernel
theorem dX7_reasonOfText_69 : decode cX7_reasonOfText 69 = .ok (.aload_n 0, 1) := by decide +kernel
theorem dX7_reasonOfText_70 : decode cX7_reasonOfText 70 = .ok (.getfield 202, 3) := by decide +kernel
theorem dX7_reasonOfText_73 : decode cX7_reasonOfText 73 = .ok (.ifCond .eq 19, 3) := by decide +kernel
theorem dX7_reasonOfText_76 : decode cX7_reasonOfText 76 = .ok (.aload_n 0, 1) := by decide +kernel
theorem dX7_reasonOfText_77 : decode cX7_reasonOfText 77 = .ok (.getfield 184, 3) := by decide +kernel
theorem dX7_reasonOfText_80 : decode cX7_reasonOfText 80 = .ok (.iconst 1, 1) := by decide +kernel
theorem dX7_reasonOfText_81 : decode cX7_reasonOfText 81 = .ok (.sipush 500, 3) := by decide +kernel
theorem dX7_reasonOfText_84 : decode cX7_reasonOfText 84 = .ok (.invokestatic 30, 3) := by decide +kernel
theorem dX7_reasonOfText_87 : decode cX7_reasonOfText 87 = .ok (.ifCond .ne 5, 3) := by decide +kernel
theorem dX7_reasonOfText_90 : decode cX7_reasonOfText 90 = .ok (.iconst 3, 1) := by decide +kernel
theorem dX7_reasonOfText_91 : decode cX7_reasonOfText 91 = .ok (.ireturn, 1) := by decide +kernel
theorem dX7_reasonOfText_92 : decode cX7_reasonOfText 92 = .ok (.iload_n 1, 1) := by decide +kernel
theorem dX7_reasonOfText_93 : decode cX7_reasonOfText 93 = .ok (.aload_n 0, 1) := by decide +kernel
theorem dX7_reasonOfText_94 : decode cX7_reasonOfText 94 = .ok (.getfield 184, 3) := by decide +kernel
theorem dX7_reasonOfText_97 : decode cX7_reasonOfText 97 = .ok (.iadd, 1) := by decide +kernel
theorem dX7_reasonOfText_98 : decode cX7_reasonOfText 98 = .ok (.istore_n 1, 1) := by decide +kernel
theorem dX7_reasonOfText_99 : decode cX7_reasonOfText 99 = .ok (.iload_n 1, 1) := by decide +kernel
theorem dX7_reasonOfText_100 : decode cX7_reasonOfText 100 = .ok (.ldc 148, 2) := by decide +kernel
theorem dX7_reasonOfText_102 : decode cX7_reasonOfText 102 = .ok (.if_icmp .le (-90), 3) := by decide +kernel
theorem dX7_reasonOfText_105 : decode cX7_reasonOfText 105 = .ok (.iconst 4, 1) := by decide +kernel
theorem dX7_reasonOfText_106 : decode cX7_reasonOfText 106 = .ok (.ireturn, 1) := by decide +kernel
theorem dX7_reasonOfText_107 : decode cX7_reasonOfText 107 = .ok (.iconst 0, 1) := by decide +kernel
theorem dX7_reasonOfText_108 : decode cX7_reasonOfText 108 = .ok (.ireturn, 1) := by decide +kernel
set_option maxRecDepth 20000 in
theorem ggX7_fault_X7_in : GoodIn wsX7_fault wsX7_in := goodIn_r _ [5] (by decide +kernel) (by decide +kernel)
set_option maxRecDepth 20000 in
theorem gX7_fault_X7_in : GoodIn wsX7_fault (va_wsS RX7 30 yX7_in wsX7_in) := goodIn_app (goodIn_of _ (by decide +kernel)) ggX7_fault_X7_in
set_option maxRecDepth 20000 in
theorem ggX7_fault_X7_reasonOfText : GoodIn wsX7_fault wsX7_reasonOfText := goodIn_r _ [9, 10, 11, 12, 1, 13, 14, 15, 16, 17, 18, 19, 20, 4, 21, 22, 23, 24, 25, 26, 27, 2, 3, 5, 28, 29, 30, 31, 32, 33, 34, 35, 36, 37, 38, 39, 40, 41, 42, 43, 44, 45, 46, 47] (by decide +kernel) (by decide +kernel)
set_option maxRecDepth 20000 in
theorem gX7_fault_X7_reasonOfText : GoodIn wsX7_fault (wsV RX7 213 RX7 yX7_reasonOfText wsX7_reasonOfText) := goodIn_app (goodIn_of _ (by decide +kernel)) ggX7_fault_X7_reasonOfText
theorem dX7_fault_0 : decode cX7_fault 0 = .ok (.iload_n 1, 1) := by decide +kernel
theorem dX7_fault_1 : decode cX7_fault 1 = .ok (.iconst 0, 1) := by decide +kernel
theorem dX7_fault_2 : decode cX7_fault 2 = .ok (.iconst 1, 1) := by decide +kernel
theorem dX7_fault_3 : decode cX7_fault 3 = .ok (.invokestatic 30, 3) := by decide +kernel
theorem dX7_fault_6 : decode cX7_fault 6 = .ok (.ifCond .ne 5, 3) := by decide +kernel
theorem dX7_fault_9 : decode cX7_fault 9 = .ok (.iconst (-1), 1) := by decide +kernel
theorem dX7_fault_10 : decode cX7_fault 10 = .ok (.ireturn, 1) := by decide +kernel
theorem dX7_fault_11 : decode cX7_fault 11 = .ok (.aload_n 0, 1) := by decide +kernel
theorem dX7_fault_12 : decode cX7_fault 12 = .ok (.invokevirtual 213, 3) := by decide +kernel
theorem dX7_fault_15 : decode cX7_fault 15 = .ok (.istore_n 2, 1) := by decide +kernel
theorem dX7_fault_16 : decode cX7_fault 16 = .ok (.iload_n 2, 1) := by decide +kernel
theorem dX7_fault_17 : decode cX7_fault 17 = .ok (.ifCond .ne 8, 3) := by decide +kernel
theorem dX7_fault_20 : decode cX7_fault 20 = .ok (.bipush (-4), 2) := by decide +kernel
theorem dX7_fault_22 : decode cX7_fault 22 = .ok (.goto 15, 3) := by decide +kernel
theorem dX7_fault_25 : decode cX7_fault 25 = .ok (.iload_n 1, 1) := by decide +kernel
theorem dX7_fault_26 : decode cX7_fault 26 = .ok (.ifCond .ne 10, 3) := by decide +kernel
theorem dX7_fault_29 : decode cX7_fault 29 = .ok (.aload_n 0, 1) := by decide +kernel
theorem dX7_fault_30 : decode cX7_fault 30 = .ok (.getfield 206, 3) := by decide +kernel
theorem dX7_fault_33 : decode cX7_fault 33 = .ok (.goto 4, 3) := by decide +kernel
theorem dX7_fault_36 : decode cX7_fault 36 = .ok (.iload_n 2, 1) := by decide +kernel
theorem dX7_fault_37 : decode cX7_fault 37 = .ok (.ireturn, 1) := by decide +kernel
set_option maxRecDepth 20000 in
theorem ggX7_play_X7_reasonOfText : GoodIn wsX7_play wsX7_reasonOfText := goodIn_r _ [11, 1, 12, 2, 13, 4, 5, 14, 6, 15, 16, 17, 18, 10, 19, 3, 20, 21, 22, 23, 24, 25, 26, 27, 28, 29, 30, 31, 32, 33, 34, 135, 136, 137, 138, 139, 140, 141, 142, 143, 144, 145, 146, 147] (by decide +kernel) (by decide +kernel)
set_option maxRecDepth 20000 in
theorem gX7_play_X7_reasonOfText : GoodIn wsX7_play (wsV RX7 213 RX7 yX7_reasonOfText wsX7_reasonOfText) := goodIn_app (goodIn_of _ (by decide +kernel)) ggX7_play_X7_reasonOfText
set_option maxRecDepth 20000 in
theorem ggX7_play_X7_records : GoodIn wsX7_play wsX7_records := goodIn_r _ [38, 39, 40, 12, 135, 136, 137, 138, 139, 140, 141, 142, 143, 144, 145, 146, 147] (by decide +kernel) (by decide +kernel)
set_option maxRecDepth 20000 in
theorem gX7_play_X7_records : GoodIn wsX7_play (wsV RX7 69 RX7 yX7_records wsX7_records) := goodIn_app (goodIn_of _ (by decide +kernel)) ggX7_play_X7_records
set_option maxRecDepth 20000 in
theorem ggX7_play_X7_isFormed : GoodIn wsX7_play wsX7_isFormed := goodIn_r _ [19, 6, 3, 4, 5, 14, 20, 21, 22, 10, 23, 1, 2, 24, 25, 26, 27, 28, 29, 30, 31, 32, 33, 34, 135, 136, 137, 138, 139, 140, 141, 142, 143, 144, 145, 146, 147] (by decide +kernel) (by decide +kernel)
set_option maxRecDepth 20000 in
theorem gX7_play_X7_isFormed : GoodIn wsX7_play (wsV RX7 209 RX7 yX7_isFormed wsX7_isFormed) := goodIn_app (goodIn_of _ (by decide +kernel)) ggX7_play_X7_isFormed
set_option maxRecDepth 20000 in
theorem ggX7_play_X7_presses : GoodIn wsX7_play wsX7_presses := goodIn_r _ [44, 45, 46, 47, 10, 48, 49, 50, 51, 52, 53, 54, 55, 56, 57, 58, 59, 60, 61, 12, 62, 63, 64, 65, 66, 67, 68, 69, 70, 71, 72, 73, 74, 75, 76, 77, 78, 79, 80, 81, 82, 83, 84, 85, 86, 87, 88, 135, 136, 137, 138, 139, 140, 141, 142, 143, 144, 145, 146, 147] (by decide +kernel) (by decide +kernel)
set_option maxRecDepth 20000 in
theorem gX7_play_X7_presses : GoodIn wsX7_play (wsV RX7 92 RX7 yX7_presses wsX7_presses) := goodIn_app (goodIn_of _ (by decide +kernel)) ggX7_play_X7_presses
set_option maxRecDepth 20000 in
theorem ggX7_play_X7_plucks : GoodIn wsX7_play wsX7_plucks := goodIn_r _ [92, 12, 93, 94, 95, 96, 10, 97, 50, 51, 52, 53, 54, 55, 56, 57, 58, 59, 60, 61, 62, 63, 64, 65, 66, 67, 68, 69, 70, 71, 72, 73, 74, 75, 76, 98, 99, 100, 101, 77, 78, 79, 80, 102, 103, 104, 105, 45, 46, 47, 48, 49, 106, 107, 108, 109, 110, 111, 112, 113, 114, 115, 116, 117, 81, 82, 83, 84, 85, 86, 87, 88, 135, 136, 137, 138, 139, 140, 141, 142, 143, 144, 145, 146, 147] (by decide +kernel) (by decide +kernel)
set_option maxRecDepth 20000 in
theorem gX7_play_X7_plucks : GoodIn wsX7_play (wsV RX7 115 RX7 yX7_plucks wsX7_plucks) := goodIn_app (goodIn_of _ (by decide +kernel)) ggX7_play_X7_plucks
set_option maxRecDepth 20000 in
theorem ggX7_play_X7_goesOn : GoodIn wsX7_play wsX7_goesOn := goodIn_r _ [121, 12, 122, 123, 124, 10, 125, 58, 59, 60, 61, 50, 51, 52, 53, 54, 55, 56, 57, 62, 63, 64, 65, 66, 67, 68, 69, 70, 71, 72, 73, 74, 75, 76, 126, 127, 128, 129, 94, 95, 96, 97, 98, 99, 100, 101, 130, 131, 132, 133, 134, 114, 115, 116, 117, 135, 136, 137, 138, 139, 140, 141, 142, 143, 144, 145, 146, 147] (by decide +kernel) (by decide +kernel)
set_option maxRecDepth 20000 in
theorem gX7_play_X7_goesOn : GoodIn wsX7_play (wsV RX7 161 RX7 yX7_goesOn wsX7_goesOn) := goodIn_app (goodIn_of _ (by decide +kernel)) ggX7_play_X7_goesOn
theorem dX7_play_0 : decode cX7_play 0 = .ok (.aload_n 0, 1) := by decide +kernel
theorem dX7_play_1 : decode cX7_play 1 = .ok (.invokevirtual 213, 3) := by decide +kernel
theorem dX7_play_4 : decode cX7_play 4 = .ok (.ifCond .eq 6, 3) := by decide +kernel
theorem dX7_play_7 : decode cX7_play 7 = .ok (.bipush (-2), 2) := by decide +kernel
theorem dX7_play_9 : decode cX7_play 9 = .ok (.ireturn, 1) := by decide +kernel
theorem dX7_play_10 : decode cX7_play 10 = .ok (.aload_n 0, 1) := by decide +kernel
theorem dX7_play_11 : decode cX7_play 11 = .ok (.invokevirtual 69, 3) := by decide +kernel
theorem dX7_play_14 : decode cX7_play 14 = .ok (.aload_n 0, 1) := by decide +kernel
theorem dX7_play_15 : decode cX7_play 15 = .ok (.iconst 0, 1) := by decide +kernel
theorem dX7_play_16 : decode cX7_play 16 = .ok (.putfield 181, 3) := by decide +kernel
theorem dX7_play_19 : decode cX7_play 19 = .ok (.iconst 0, 1) := by decide +kernel
theorem dX7_play_20 : decode cX7_play 20 = .ok (.istore_n 1, 1) := by decide +kernel
theorem dX7_play_21 : decode cX7_play 21 = .ok (.aload_n 0, 1) := by decide +kernel
theorem dX7_play_22 : decode cX7_play 22 = .ok (.getfield 181, 3) := by decide +kernel
theorem dX7_play_25 : decode cX7_play 25 = .ok (.aload_n 0, 1) := by decide +kernel
theorem dX7_play_26 : decode cX7_play 26 = .ok (.getfield 178, 3) := by decide +kernel
theorem dX7_play_29 : decode cX7_play 29 = .ok (.if_icmp .ge 51, 3) := by decide +kernel
theorem dX7_play_32 : decode cX7_play 32 = .ok (.aload_n 0, 1) := by decide +kernel
theorem dX7_play_33 : decode cX7_play 33 = .ok (.invokevirtual 209, 3) := by decide +kernel
theorem dX7_play_36 : decode cX7_play 36 = .ok (.ifCond .eq 44, 3) := by decide +kernel
theorem dX7_play_39 : decode cX7_play 39 = .ok (.aload_n 0, 1) := by decide +kernel
theorem dX7_play_40 : decode cX7_play 40 = .ok (.aload_n 0, 1) := by decide +kernel
theorem dX7_play_41 : decode cX7_play 41 = .ok (.getfield 190, 3) := by decide +kernel
theorem dX7_play_44 : decode cX7_play 44 = .ok (.aload_n 0, 1) := by decide +kernel
theorem dX7_play_45 : decode cX7_play 45 = .ok (.getfield 196, 3) := by decide +kernel
theorem dX7_play_48 : decode cX7_play 48 = .ok (.invokevirtual 92, 3) := by decide +kernel
theorem dX7_play_51 : decode cX7_play 51 = .ok (.aload_n 0, 1) := by decide +kernel
theorem dX7_play_52 : decode cX7_play 52 = .ok (.aload_n 0, 1) := by decide +kernel
theorem dX7_play_53 : decode cX7_play 53 = .ok (.getfield 190, 3) := by decide +kernel
theorem dX7_play_56 : decode cX7_play 56 = .ok (.sipush 2460, 3) := by decide +kernel
theorem dX7_play_59 : decode cX7_play 59 = .ok (.aload_n 0, 1) := by decide +kernel
theorem dX7_play_60 : decode cX7_play 60 = .ok (.getfield 199, 3) := by decide +kernel
theorem dX7_play_63 : decode cX7_play 63 = .ok (.invokevirtual 115, 3) := by decide +kernel
theorem dX7_play_66 : decode cX7_play 66 = .ok (.aload_n 0, 1) := by decide +kernel
theorem dX7_play_67 : decode cX7_play 67 = .ok (.aload_n 0, 1) := by decide +kernel
theorem dX7_play_68 : decode cX7_play 68 = .ok (.getfield 184, 3) := by decide +kernel
theorem dX7_play_71 : decode cX7_play 71 = .ok (.invokevirtual 161, 3) := by decide +kernel
theorem dX7_play_74 : decode cX7_play 74 = .ok (.iinc 1 1, 3) := by decide +kernel
theorem dX7_play_77 : decode cX7_play 77 = .ok (.goto (-56), 3) := by decide +kernel
theorem dX7_play_80 : decode cX7_play 80 = .ok (.iload_n 1, 1) := by decide +kernel
theorem dX7_play_81 : decode cX7_play 81 = .ok (.ireturn, 1) := by decide +kernel
