theorem dJ6_bitCount_0f7a4_0 : decode cJ6_bitCount_0f7a4 0 = .ok (.iload_n 0, 1) := by decide +kernel
theorem dJ6_bitCount_0f7a4_1 : decode cJ6_bitCount_0f7a4 1 = .ok (.iload_n 0, 1) := by decide +kernel
theorem dJ6_bitCount_0f7a4_2 : decode cJ6_bitCount_0f7a4 2 = .ok (.iconst 1, 1) := by decide +kernel
theorem dJ6_bitCount_0f7a4_3 : decode cJ6_bitCount_0f7a4 3 = .ok (.iushr, 1) := by decide +kernel
theorem dJ6_bitCount_0f7a4_4 : decode cJ6_bitCount_0f7a4 4 = .ok (.ldc_w 265, 3) := by decide +kernel
theorem dJ6_bitCount_0f7a4_7 : decode cJ6_bitCount_0f7a4 7 = .ok (.iand, 1) := by decide +kernel
theorem dJ6_bitCount_0f7a4_8 : decode cJ6_bitCount_0f7a4 8 = .ok (.isub, 1) := by decide +kernel
theorem dJ6_bitCount_0f7a4_9 : decode cJ6_bitCount_0f7a4 9 = .ok (.istore_n 0, 1) := by decide +kernel
theorem dJ6_bitCount_0f7a4_10 : decode cJ6_bitCount_0f7a4 10 = .ok (.iload_n 0, 1) := by decide +kernel
theorem dJ6_bitCount_0f7a4_11 : decode cJ6_bitCount_0f7a4 11 = .ok (.ldc_w 266, 3) := by decide +kernel
theorem dJ6_bitCount_0f7a4_14 : decode cJ6_bitCount_0f7a4 14 = .ok (.iand, 1) := by decide +kernel
theorem dJ6_bitCount_0f7a4_15 : decode cJ6_bitCount_0f7a4 15 = .ok (.iload_n 0, 1) := by decide +kernel
theorem dJ6_bitCount_0f7a4_16 : decode cJ6_bitCount_0f7a4 16 = .ok (.iconst 2, 1) := by decide +kernel
theorem dJ6_bitCount_0f7a4_17 : decode cJ6_bitCount_0f7a4 17 = .ok (.iushr, 1) := by decide +kernel
theorem dJ6_bitCount_0f7a4_18 : decode cJ6_bitCount_0f7a4 18 = .ok (.ldc_w 266, 3) := by decide +kernel
theorem dJ6_bitCount_0f7a4_21 : decode cJ6_bitCount_0f7a4 21 = .ok (.iand, 1) := by decide +kernel
theorem dJ6_bitCount_0f7a4_22 : decode cJ6_bitCount_0f7a4 22 = .ok (.iadd, 1) := by decide +kernel
theorem dJ6_bitCount_0f7a4_23 : decode cJ6_bitCount_0f7a4 23 = .ok (.istore_n 0, 1) := by decide +kernel
theorem dJ6_bitCount_0f7a4_24 : decode cJ6_bitCount_0f7a4 24 = .ok (.iload_n 0, 1) := by decide +kernel
theorem dJ6_bitCount_0f7a4_25 : decode cJ6_bitCount_0f7a4 25 = .ok (.iload_n 0, 1) := by decide +kernel
theorem dJ6_bitCount_0f7a4_26 : decode cJ6_bitCount_0f7a4 26 = .ok (.iconst 4, 1) := by decide +kernel
theorem dJ6_bitCount_0f7a4_27 : decode cJ6_bitCount_0f7a4 27 = .ok (.iushr, 1) := by decide +kernel
theorem dJ6_bitCount_0f7a4_28 : decode cJ6_bitCount_0f7a4 28 = .ok (.iadd, 1) := by decide +kernel
theorem dJ6_bitCount_0f7a4_29 : decode cJ6_bitCount_0f7a4 29 = .ok (.ldc_w 267, 3) := by decide +kernel
theorem dJ6_bitCount_0f7a4_32 : decode cJ6_bitCount_0f7a4 32 = .ok (.iand, 1) := by decide +kernel
theorem dJ6_bitCount_0f7a4_33 : decode cJ6_bitCount_0f7a4 33 = .ok (.istore_n 0, 1) := by decide +kernel
theorem dJ6_bitCount_0f7a4_34 : decode cJ6_bitCount_0f7a4 34 = .ok (.iload_n 0, 1) := by decide +kernel
theorem dJ6_bitCount_0f7a4_35 : decode cJ6_bitCount_0f7a4 35 = .ok (.iload_n 0, 1) := by decide +kernel
theorem dJ6_bitCount_0f7a4_36 : decode cJ6_bitCount_0f7a4 36 = .ok (.bipush 8, 2) := by decide +kernel
theorem dJ6_bitCount_0f7a4_38 : decode cJ6_bitCount_0f7a4 38 = .ok (.iushr, 1) := by decide +kernel
theorem dJ6_bitCount_0f7a4_39 : decode cJ6_bitCount_0f7a4 39 = .ok (.iadd, 1) := by decide +kernel
theorem dJ6_bitCount_0f7a4_40 : decode cJ6_bitCount_0f7a4 40 = .ok (.istore_n 0, 1) := by decide +kernel
theorem dJ6_bitCount_0f7a4_41 : decode cJ6_bitCount_0f7a4 41 = .ok (.iload_n 0, 1) := by decide +kernel
theorem dJ6_bitCount_0f7a4_42 : decode cJ6_bitCount_0f7a4 42 = .ok (.iload_n 0, 1) := by decide +kernel
theorem dJ6_bitCount_0f7a4_43 : decode cJ6_bitCount_0f7a4 43 = .ok (.bipush 16, 2) := by decide +kernel
theorem dJ6_bitCount_0f7a4_45 : decode cJ6_bitCount_0f7a4 45 = .ok (.iushr, 1) := by decide +kernel
theorem dJ6_bitCount_0f7a4_46 : decode cJ6_bitCount_0f7a4 46 = .ok (.iadd, 1) := by decide +kernel
theorem dJ6_bitCount_0f7a4_47 : decode cJ6_bitCount_0f7a4 47 = .ok (.istore_n 0, 1) := by decide +kernel
theorem dJ6_bitCount_0f7a4_48 : decode cJ6_bitCount_0f7a4 48 = .ok (.iload_n 0, 1) := by decide +kernel
theorem dJ6_bitCount_0f7a4_49 : decode cJ6_bitCount_0f7a4 49 = .ok (.bipush 63, 2) := by decide +kernel
theorem dJ6_bitCount_0f7a4_51 : decode cJ6_bitCount_0f7a4 51 = .ok (.iand, 1) := by decide +kernel
theorem dJ6_bitCount_0f7a4_52 : decode cJ6_bitCount_0f7a4 52 = .ok (.ireturn, 1) := by decide +kernel
theorem dJ9_floorDiv_7cf53_0 : decode cJ9_floorDiv_7cf53 0 = .ok (.iload_n 0, 1) := by decide +kernel
theorem dJ9_floorDiv_7cf53_1 : decode cJ9_floorDiv_7cf53 1 = .ok (.iload_n 1, 1) := by decide +kernel
theorem dJ9_floorDiv_7cf53_2 : decode cJ9_floorDiv_7cf53 2 = .ok (.idiv, 1) := by decide +kernel
theorem dJ9_floorDiv_7cf53_3 : decode cJ9_floorDiv_7cf53 3 = .ok (.istore_n 2, 1) := by decide +kernel
theorem dJ9_floorDiv_7cf53_4 : decode cJ9_floorDiv_7cf53 4 = .ok (.iload_n 0, 1) := by decide +kernel
theorem dJ9_floorDiv_7cf53_5 : decode cJ9_floorDiv_7cf53 5 = .ok (.iload_n 1, 1) := by decide +kernel
theorem dJ9_floorDiv_7cf53_6 : decode cJ9_floorDiv_7cf53 6 = .ok (.ixor, 1) := by decide +kernel
theorem dJ9_floorDiv_7cf53_7 : decode cJ9_floorDiv_7cf53 7 = .ok (.ifCond .ge 14, 3) := by decide +kernel
theorem dJ9_floorDiv_7cf53_10 : decode cJ9_floorDiv_7cf53 10 = .ok (.iload_n 2, 1) := by decide +kernel
theorem dJ9_floorDiv_7cf53_11 : decode cJ9_floorDiv_7cf53 11 = .ok (.iload_n 1, 1) := by decide +kernel
theorem dJ9_floorDiv_7cf53_12 : decode cJ9_floorDiv_7cf53 12 = .ok (.imul, 1) := by decide +kernel
theorem dJ9_floorDiv_7cf53_13 : decode cJ9_floorDiv_7cf53 13 = .ok (.iload_n 0, 1) := by decide +kernel
theorem dJ9_floorDiv_7cf53_14 : decode cJ9_floorDiv_7cf53 14 = .ok (.if_icmp .eq 7, 3) := by decide +kernel
theorem dJ9_floorDiv_7cf53_17 : decode cJ9_floorDiv_7cf53 17 = .ok (.iload_n 2, 1) := by decide +kernel
theorem dJ9_floorDiv_7cf53_18 : decode cJ9_floorDiv_7cf53 18 = .ok (.iconst 1, 1) := by decide +kernel
theorem dJ9_floorDiv_7cf53_19 : decode cJ9_floorDiv_7cf53 19 = .ok (.isub, 1) := by decide +kernel
theorem dJ9_floorDiv_7cf53_20 : decode cJ9_floorDiv_7cf53 20 = .ok (.ireturn, 1) := by decide +kernel
theorem dJ9_floorDiv_7cf53_21 : decode cJ9_floorDiv_7cf53 21 = .ok (.iload_n 2, 1) := by decide +kernel
theorem dJ9_floorDiv_7cf53_22 : decode cJ9_floorDiv_7cf53 22 = .ok (.ireturn, 1) := by decide +kernel
theorem dJ9_floorMod_7cf53_0 : decode cJ9_floorMod_7cf53 0 = .ok (.iload_n 0, 1) := by decide +kernel
theorem dJ9_floorMod_7cf53_1 : decode cJ9_floorMod_7cf53 1 = .ok (.iload_n 1, 1) := by decide +kernel
theorem dJ9_floorMod_7cf53_2 : decode cJ9_floorMod_7cf53 2 = .ok (.irem, 1) := by decide +kernel
theorem dJ9_floorMod_7cf53_3 : decode cJ9_floorMod_7cf53 3 = .ok (.istore_n 2, 1) := by decide +kernel
theorem dJ9_floorMod_7cf53_4 : decode cJ9_floorMod_7cf53 4 = .ok (.iload_n 0, 1) := by decide +kernel
theorem dJ9_floorMod_7cf53_5 : decode cJ9_floorMod_7cf53 5 = .ok (.iload_n 1, 1) := by decide +kernel
theorem dJ9_floorMod_7cf53_6 : decode cJ9_floorMod_7cf53 6 = .ok (.ixor, 1) := by decide +kernel
theorem dJ9_floorMod_7cf53_7 : decode cJ9_floorMod_7cf53 7 = .ok (.ifCond .ge 11, 3) := by decide +kernel
theorem dJ9_floorMod_7cf53_10 : decode cJ9_floorMod_7cf53 10 = .ok (.iload_n 2, 1) := by decide +kernel
theorem dJ9_floorMod_7cf53_11 : decode cJ9_floorMod_7cf53 11 = .ok (.ifCond .eq 7, 3) := by decide +kernel
theorem dJ9_floorMod_7cf53_14 : decode cJ9_floorMod_7cf53 14 = .ok (.iload_n 2, 1) := by decide +kernel
theorem dJ9_floorMod_7cf53_15 : decode cJ9_floorMod_7cf53 15 = .ok (.iload_n 1, 1) := by decide +kernel
theorem dJ9_floorMod_7cf53_16 : decode cJ9_floorMod_7cf53 16 = .ok (.iadd, 1) := by decide +kernel
theorem dJ9_floorMod_7cf53_17 : decode cJ9_floorMod_7cf53 17 = .ok (.ireturn, 1) := by decide +kernel
theorem dJ9_floorMod_7cf53_18 : decode cJ9_floorMod_7cf53 18 = .ok (.iload_n 2, 1) := by decide +kernel
theorem dJ9_floorMod_7cf53_19 : decode cJ9_floorMod_7cf53 19 = .ok (.ireturn, 1) := by decide +kernel
theorem dJ9_abs_0f7a4_0 : decode cJ9_abs_0f7a4 0 = .ok (.iload_n 0, 1) := by decide +kernel
theorem dJ9_abs_0f7a4_1 : decode cJ9_abs_0f7a4 1 = .ok (.ifCond .ge 8, 3) := by decide +kernel
theorem dJ9_abs_0f7a4_4 : decode cJ9_abs_0f7a4 4 = .ok (.iload_n 0, 1) := by decide +kernel
theorem dJ9_abs_0f7a4_5 : decode cJ9_abs_0f7a4 5 = .ok (.ineg, 1) := by decide +kernel
theorem dJ9_abs_0f7a4_6 : decode cJ9_abs_0f7a4 6 = .ok (.goto 4, 3) := by decide +kernel
theorem dJ9_abs_0f7a4_9 : decode cJ9_abs_0f7a4 9 = .ok (.iload_n 0, 1) := by decide +kernel
theorem dJ9_abs_0f7a4_10 : decode cJ9_abs_0f7a4 10 = .ok (.ireturn, 1) := by decide +kernel
theorem dJ9_max_7cf53_0 : decode cJ9_max_7cf53 0 = .ok (.iload_n 0, 1) := by decide +kernel
theorem dJ9_max_7cf53_1 : decode cJ9_max_7cf53 1 = .ok (.iload_n 1, 1) := by decide +kernel
theorem dJ9_max_7cf53_2 : decode cJ9_max_7cf53 2 = .ok (.if_icmp .lt 7, 3) := by decide +kernel
theorem dJ9_max_7cf53_5 : decode cJ9_max_7cf53 5 = .ok (.iload_n 0, 1) := by decide +kernel
theorem dJ9_max_7cf53_6 : decode cJ9_max_7cf53 6 = .ok (.goto 4, 3) := by decide +kernel
theorem dJ9_max_7cf53_9 : decode cJ9_max_7cf53 9 = .ok (.iload_n 1, 1) := by decide +kernel
theorem dJ9_max_7cf53_10 : decode cJ9_max_7cf53 10 = .ok (.ireturn, 1) := by decide +kernel
theorem dJ9_min_7cf53_0 : decode cJ9_min_7cf53 0 = .ok (.iload_n 0, 1) := by decide +kernel
theorem dJ9_min_7cf53_1 : decode cJ9_min_7cf53 1 = .ok (.iload_n 1, 1) := by decide +kernel
theorem dJ9_min_7cf53_2 : decode cJ9_min_7cf53 2 = .ok (.if_icmp .gt 7, 3) := by decide +kernel
theorem dJ9_min_7cf53_5 : decode cJ9_min_7cf53 5 = .ok (.iload_n 0, 1) := by decide +kernel
theorem dJ9_min_7cf53_6 : decode cJ9_min_7cf53 6 = .ok (.goto 4, 3) := by decide +kernel
theorem dJ9_min_7cf53_9 : decode cJ9_min_7cf53 9 = .ok (.iload_n 1, 1) := by decide +kernel
theorem dJ9_min_7cf53_10 : decode cJ9_min_7cf53 10 = .ok (.ireturn, 1) := by decide +kernel
theorem dX6_isWithin_0 : decode cX6_isWithin 0 = .ok (.iload_n 0, 1) := by decide +kernel
theorem dX6_isWithin_1 : decode cX6_isWithin 1 = .ok (.iload_n 1, 1) := by decide +kernel
theorem dX6_isWithin_2 : decode cX6_isWithin 2 = .ok (.if_icmp .lt 12, 3) := by decide +kernel
theorem dX6_isWithin_5 : decode cX6_isWithin 5 = .ok (.iload_n 0, 1) := by decide +kernel
theorem dX6_isWithin_6 : decode cX6_isWithin 6 = .ok (.iload_n 2, 1) := by decide +kernel
theorem dX6_isWithin_7 : decode cX6_isWithin 7 = .ok (.if_icmp .gt 7, 3) := by decide +kernel
theorem dX6_isWithin_10 : decode cX6_isWithin 10 = .ok (.iconst 1, 1) := by decide +kernel
theorem dX6_isWithin_11 : decode cX6_isWithin 11 = .ok (.goto 4, 3) := by decide +kernel
theorem dX6_isWithin_14 : decode cX6_isWithin 14 = .ok (.iconst 0, 1) := by decide +kernel
theorem dX6_isWithin_15 : decode cX6_isWithin 15 = .ok (.ireturn, 1) := by decide +kernel
set_option maxRecDepth 20000 in
theorem ggX6_isString_X6_isWithin : GoodIn wsX6_isString wsX6_isWithin := goodIn_r _ [4] (by decide +kernel) (by decide +kernel)
set_option maxRecDepth 20000 in
theorem gX6_isString_X6_isWithin : GoodIn wsX6_isString (va_wsS RX6 30 yX6_isWithin wsX6_isWithin) := goodIn_app (goodIn_of _ (by decide +kernel)) ggX6_isString_X6_isWithin
theorem dX6_isString_0 : decode cX6_isString 0 = .ok (.iload_n 0, 1) := by decide +kernel
theorem dX6_isString_1 : decode cX6_isString 1 = .ok (.iconst 0, 1) := by decide +kernel
theorem dX6_isString_2 : decode cX6_isString 2 = .ok (.iconst 3, 1) := by decide +kernel
theorem dX6_isString_3 : decode cX6_isString 3 = .ok (.invokestatic 30, 3) := by decide +kernel
theorem dX6_isString_6 : decode cX6_isString 6 = .ok (.ireturn, 1) := by decide +kernel
set_option maxRecDepth 20000 in
theorem ggX6_isMode_X6_isWithin : GoodIn wsX6_isMode wsX6_isWithin := goodIn_r _ [4] (by decide +kernel) (by decide +kernel)
set_option maxRecDepth 20000 in
theorem gX6_isMode_X6_isWithin : GoodIn wsX6_isMode (va_wsS RX6 30 yX6_isWithin wsX6_isWithin) := goodIn_app (goodIn_of _ (by decide +kernel)) ggX6_isMode_X6_isWithin
theorem dX6_isMode_0 : decode cX6_isMode 0 = .ok (.iload_n 0, 1) := by decide +kernel
theorem dX6_isMode_1 : decode cX6_isMode 1 = .ok (.iconst 1, 1) := by decide +kernel
theorem dX6_isMode_2 : decode cX6_isMode 2 = .ok (.bipush 12, 2) := by decide +kernel
theorem dX6_isMode_4 : decode cX6_isMode 4 = .ok (.invokestatic 30, 3) := by decide +kernel
theorem dX6_isMode_7 : decode cX6_isMode 7 = .ok (.ireturn, 1) := by decide +kernel
set_option maxRecDepth 20000 in
theorem ggX6_isPlace_X6_isWithin : GoodIn wsX6_isPlace wsX6_isWithin := goodIn_r _ [4] (by decide +kernel) (by decide +kernel)
set_option maxRecDepth 20000 in
theorem gX6_isPlace_X6_isWithin : GoodIn wsX6_isPlace (va_wsS RX6 30 yX6_isWithin wsX6_isWithin) := goodIn_app (goodIn_of _ (by decide +kernel)) ggX6_isPlace_X6_isWithin
theorem dX6_isPlace_0 : decode cX6_isPlace 0 = .ok (.iload_n 0, 1) := by decide +kernel
theorem dX6_isPlace_1 : decode cX6_isPlace 1 = .ok (.iconst 1, 1) := by decide +kernel
theorem dX6_isPlace_2 : decode cX6_isPlace 2 = .ok (.sipush 2519, 3) := by decide +kernel
theorem dX6_isPlace_5 : decode cX6_isPlace 5 = .ok (.invokestatic 30, 3) := by decide +kernel
theorem dX6_isPlace_8 : decode cX6_isPlace 8 = .ok (.ireturn, 1) := by decide +kernel
theorem dX6_greatestCommonDivisor_0 : decode cX6_greatestCommonDivisor 0 = .ok (.iload_n 0, 1) := by decide +kernel
theorem dX6_greatestCommonDivisor_1 : decode cX6_greatestCommonDivisor 1 = .ok (.istore_n 2, 1) := by decide +kernel
theorem dX6_greatestCommonDivisor_2 : decode cX6_greatestCommonDivisor 2 = .ok (.iload_n 1, 1) := by decide +kernel
theorem dX6_greatestCommonDivisor_3 : decode cX6_greatestCommonDivisor 3 = .ok (.istore_n 3, 1) := by decide +kernel
theorem dX6_greatestCommonDivisor_4 : decode cX6_greatestCommonDivisor 4 = .ok (.iconst 0, 1) := by decide +kernel
theorem dX6_greatestCommonDivisor_5 : decode cX6_greatestCommonDivisor 5 = .ok (.istore 4, 2) := by decide +kernel
theorem dX6_greatestCommonDivisor_7 : decode cX6_greatestCommonDivisor 7 = .ok (.iload 4, 2) := by decide +kernel
theorem dX6_greatestCommonDivisor_9 : decode cX6_greatestCommonDivisor 9 = .ok (.bipush 64, 2) := by decide +kernel
theorem dX6_greatestCommonDivisor_11 : decode cX6_greatestCommonDivisor 11 = .ok (.if_icmp .ge 23, 3) := by decide +kernel
theorem dX6_greatestCommonDivisor_14 : decode cX6_greatestCommonDivisor 14 = .ok (.iload_n 3, 1) := by decide +kernel
theorem dX6_greatestCommonDivisor_15 : decode cX6_greatestCommonDivisor 15 = .ok (.ifCond .le 19, 3) := by decide +kernel
theorem dX6_greatestCommonDivisor_18 : decode cX6_greatestCommonDivisor 18 = .ok (.iload_n 2, 1) := by decide +kernel
theorem dX6_greatestCommonDivisor_19 : decode cX6_greatestCommonDivisor 19 = .ok (.iload_n 3, 1) := by decide +kernel
theorem dX6_greatestCommonDivisor_20 : decode cX6_greatestCommonDivisor 20 = .ok (.irem, 1) := by decide +kernel
theorem dX6_greatestCommonDivisor_21 : decode cX6_greatestCommonDivisor 21 = .ok (.istore 5, 2) := by decide +kernel
theorem dX6_greatestCommonDivisor_23 : decode cX6_greatestCommonDivisor 23 = .ok (.iload_n 3, 1) := by decide +kernel
theorem dX6_greatestCommonDivisor_24 : decode cX6_greatestCommonDivisor 24 = .ok (.istore_n 2, 1) := by decide +kernel
theorem dX6_greatestCommonDivisor_25 : decode cX6_greatestCommonDivisor 25 = .ok (.iload 5, 2) := by decide +kernel
theorem dX6_greatestCommonDivisor_27 : decode cX6_greatestCommonDivisor 27 = .ok (.istore_n 3, 1) := by decide +kernel
theorem dX6_greatestCommonDivisor_28 : decode cX6_greatestCommonDivisor 28 = .ok (.iinc 4 1, 3) := by decide +kernel
theorem dX6_greatestCommonDivisor_31 : decode cX6_greatestCommonDivisor 31 = .ok (.goto (-24), 3) := by decide +kernel
theorem dX6_greatestCommonDivisor_34 : decode cX6_greatestCommonDivisor 34 = .ok (.iload_n 2, 1) := by decide +kernel
theorem dX6_greatestCommonDivisor_35 : decode cX6_greatestCommonDivisor 35 = .ok (.ireturn, 1) := by decide +kernel
theorem dX1_init_0 : decode cX1_init 0 = .ok (.aload_n 0, 1) := by decide +kernel
theorem dX1_init_1 : decode cX1_init 1 = .ok (.invokespecial 3, 3) := by decide +kernel
theorem dX1_init_4 : decode cX1_init 4 = .ok (.aload_n 0, 1) := by decide +kernel
theorem dX1_init_5 : decode cX1_init 5 = .ok (.bipush 12, 2) := by decide +kernel
theorem dX1_init_7 : decode cX1_init 7 = .ok (.newarray .int, 2) := by decide +kernel
theorem dX1_init_9 : decode cX1_init 9 = .ok (.putfield 9, 3) := by decide +kernel
theorem dX1_init_12 : decode cX1_init 12 = .ok (.aload_n 0, 1) := by decide +kernel
theorem dX1_init_13 : decode cX1_init 13 = .ok (.bipush 12, 2) := by decide +kernel
theorem dX1_init_15 : decode cX1_init 15 = .ok (.newarray .int, 2) := by decide +kernel
theorem dX1_init_17 : decode cX1_init 17 = .ok (.putfield 15, 3) := by decide +kernel
theorem dX1_init_20 : decode cX1_init 20 = .ok (.aload_n 0, 1) := by decide +kernel
theorem dX1_init_21 : decode cX1_init 21 = .ok (.bipush 12, 2) := by decide +kernel
theorem dX1_init_23 : decode cX1_init 23 = .ok (.newarray .int, 2) := by decide +kernel
theorem dX1_init_25 : decode cX1_init 25 = .ok (.putfield 18, 3) := by decide +kernel
theorem dX1_init_28 : decode cX1_init 28 = .ok (.return_, 1) := by decide +kernel
theorem dX1_copyFrom_0 : decode cX1_copyFrom 0 = .ok (.aload_n 0, 1) := by decide +kernel
theorem dX1_copyFrom_1 : decode cX1_copyFrom 1 = .ok (.aload_n 1, 1) := by decide +kernel
theorem dX1_copyFrom_2 : decode cX1_copyFrom 2 = .ok (.getfield 21, 3) := by decide +kernel
theorem dX1_copyFrom_5 : decode cX1_copyFrom 5 = .ok (.putfield 21, 3) := by decide +kernel
theorem dX1_copyFrom_8 : decode cX1_copyFrom 8 = .ok (.aload_n 1, 1) := by decide +kernel
theorem dX1_copyFrom_9 : decode cX1_copyFrom 9 = .ok (.getfield 9, 3) := by decide +kernel
theorem dX1_copyFrom_12 : decode cX1_copyFrom 12 = .ok (.iconst 0, 1) := by decide +kernel
theorem dX1_copyFrom_13 : decode cX1_copyFrom 13 = .ok (.aload_n 0, 1) := by decide +kernel
theorem dX1_copyFrom_14 : decode cX1_copyFrom 14 = .ok (.getfield 9, 3) := by decide +kernel
theorem dX1_copyFrom_17 : decode cX1_copyFrom 17 = .ok (.iconst 0, 1) := by decide +kernel
theorem dX1_copyFrom_18 : decode cX1_copyFrom 18 = .ok (.bipush 12, 2) := by decide +kernel
theorem dX1_copyFrom_20 : decode cX1_copyFrom 20 = .ok (.invokestatic 25, 3) := by decide +kernel
theorem dX1_copyFrom_23 : decode cX1_copyFrom 23 = .ok (.aload_n 1, 1) := by decide +kernel
theorem dX1_copyFrom_24 : decode cX1_copyFrom 24 = .ok (.getfield 15, 3) := by decide +kernel
theorem dX1_copyFrom_27 : decode cX1_copyFrom 27 = .ok (.iconst 0, 1) := by decide +kernel
theorem dX1_copyFrom_28 : decode cX1_copyFrom 28 = .ok (.aload_n 0, 1) := by decide +kernel
theorem dX1_copyFrom_29 : decode cX1_copyFrom 29 = .ok (.getfield 15, 3) := by decide +kernel
theorem dX1_copyFrom_32 : decode cX1_copyFrom 32 = .ok (.iconst 0, 1) := by decide +kernel
theorem dX1_copyFrom_33 : decode cX1_copyFrom 33 = .ok (.bipush 12, 2) := by decide +kernel
theorem dX1_copyFrom_35 : decode cX1_copyFrom 35 = .ok (.invokestatic 25, 3) := by decide +kernel
theorem dX1_copyFrom_38 : decode cX1_copyFrom 38 = .ok (.aload_n 1, 1) := by decide +kernel
theorem dX1_copyFrom_39 : decode cX1_copyFrom 39 = .ok (.getfield 18, 3) := by decide +kernel
theorem dX1_copyFrom_42 : decode cX1_copyFrom 42 = .ok (.iconst 0, 1) := by decide +kernel
theorem dX1_copyFrom_43 : decode cX1_copyFrom 43 = .ok (.aload_n 0, 1) := by decide +kernel
theorem dX1_copyFrom_44 : decode cX1_copyFrom 44 = .ok (.getfield 18, 3) := by decide +kernel
theorem dX1_copyFrom_47 : decode cX1_copyFrom 47 = .ok (.iconst 0, 1) := by decide +kernel
theorem dX1_copyFrom_48 : decode cX1_copyFrom 48 = .ok (.bipush 12, 2) := by decide +kernel
theorem dX1_copyFrom_50 : decode cX1_copyFrom 50 = .ok (.invokestatic 25, 3) := by decide +kernel
theorem dX1_copyFrom_53 : decode cX1_copyFrom 53 = .ok (.return_, 1) := by decide +kernel
set_option maxRecDepth 20000 in
theorem ggX1_has_X6_isWithin : GoodIn wsX1_has wsX6_isWithin := goodIn_r _ [4] (by decide +kernel) (by decide +kernel)
set_option maxRecDepth 20000 in
theorem gX1_has_X6_isWithin_n31 : GoodIn wsX1_has (wsX6_isWithin) := ggX1_has_X6_isWithin
theorem dX1_has_0 : decode cX1_has 0 = .ok (.iload_n 1, 1) := by decide +kernel
theorem dX1_has_1 : decode cX1_has 1 = .ok (.iconst 1, 1) := by decide +kernel
theorem dX1_has_2 : decode cX1_has 2 = .ok (.aload_n 0, 1) := by decide +kernel
theorem dX1_has_3 : decode cX1_has 3 = .ok (.getfield 21, 3) := by decide +kernel
theorem dX1_has_6 : decode cX1_has 6 = .ok (.invokestatic 31, 3) := by decide +kernel
theorem dX1_has_9 : decode cX1_has 9 = .ok (.ireturn, 1) := by decide +kernel
set_option maxRecDepth 20000 in
theorem ggX1_isNumberOrOpen_X6_isWithin : GoodIn wsX1_isNumberOrOpen wsX6_isWithin := goodIn_r _ [4] (by decide +kernel) (by decide +kernel)
set_option maxRecDepth 20000 in
theorem gX1_isNumberOrOpen_X6_isWithin_n31 : GoodIn wsX1_isNumberOrOpen (wsX6_isWithin) := ggX1_isNumberOrOpen_X6_isWithin
theorem dX1_isNumberOrOpen_0 : decode cX1_isNumberOrOpen 0 = .ok (.iload_n 1, 1) := by decide +kernel
theorem dX1_isNumberOrOpen_1 : decode cX1_isNumberOrOpen 1 = .ok (.iconst 0, 1) := by decide +kernel
theorem dX1_isNumberOrOpen_2 : decode cX1_isNumberOrOpen 2 = .ok (.aload_n 0, 1) := by decide +kernel
theorem dX1_isNumberOrOpen_3 : decode cX1_isNumberOrOpen 3 = .ok (.getfield 21, 3) := by decide +kernel
theorem dX1_isNumberOrOpen_6 : decode cX1_isNumberOrOpen 6 = .ok (.invokestatic 31, 3) := by decide +kernel
theorem dX1_isNumberOrOpen_9 : decode cX1_isNumberOrOpen 9 = .ok (.ireturn, 1) := by decide +kernel
set_option maxRecDepth 20000 in
theorem ggX1_positionOf_X1_has : GoodIn wsX1_positionOf wsX1_has := goodIn_r _ [6, 7, 8, 9, 10, 11, 12, 13, 14] (by decide +kernel) (by decide +kernel)
set_option maxRecDepth 20000 in
theorem gX1_positionOf_X1_has : GoodIn wsX1_positionOf (wsV RX1 35 RX1 yX1_has wsX1_has) := goodIn_app (goodIn_of _ (by decide +kernel)) ggX1_positionOf_X1_has
theorem dX1_positionOf_0 : decode cX1_positionOf 0 = .ok (.aload_n 0, 1) := by decide +kernel
theorem dX1_positionOf_1 : decode cX1_positionOf 1 = .ok (.iload_n 1, 1) := by decide +kernel
theorem dX1_positionOf_2 : decode cX1_positionOf 2 = .ok (.invokevirtual 35, 3) := by decide +kernel
theorem dX1_positionOf_5 : decode cX1_positionOf 5 = .ok (.ifCond .eq 14, 3) := by decide +kernel
theorem dX1_positionOf_8 : decode cX1_positionOf 8 = .ok (.aload_n 0, 1) := by decide +kernel
theorem dX1_positionOf_9 : decode cX1_positionOf 9 = .ok (.getfield 9, 3) := by decide +kernel
theorem dX1_positionOf_12 : decode cX1_positionOf 12 = .ok (.iload_n 1, 1) := by decide +kernel
theorem dX1_positionOf_13 : decode cX1_positionOf 13 = .ok (.iconst 1, 1) := by decide +kernel
theorem dX1_positionOf_14 : decode cX1_positionOf 14 = .ok (.isub, 1) := by decide +kernel
theorem dX1_positionOf_15 : decode cX1_positionOf 15 = .ok (.iaload, 1) := by decide +kernel
theorem dX1_positionOf_16 : decode cX1_positionOf 16 = .ok (.goto 4, 3) := by decide +kernel
theorem dX1_positionOf_19 : decode cX1_positionOf 19 = .ok (.iconst 0, 1) := by decide +kernel
theorem dX1_positionOf_20 : decode cX1_positionOf 20 = .ok (.ireturn, 1) := by decide +kernel
set_option maxRecDepth 20000 in
theorem ggX1_heightOf_X1_has : GoodIn wsX1_heightOf wsX1_has := goodIn_r _ [6, 7, 8, 9, 10, 11, 12, 13, 14] (by decide +kernel) (by decide +kernel)
set_option maxRecDepth 20000 in
theorem gX1_heightOf_X1_has : GoodIn wsX1_heightOf (wsV RX1 35 RX1 yX1_has wsX1_has) := goodIn_app (goodIn_of _ (by decide +kernel)) ggX1_heightOf_X1_has
theorem dX1_heightOf_0 : decode cX1_heightOf 0 = .ok (.aload_n 0, 1) := by decide +kernel
theorem dX1_heightOf_1 : decode cX1_heightOf 1 = .ok (.iload_n 1, 1) := by decide +kernel
theorem dX1_heightOf_2 : decode cX1_heightOf 2 = .ok (.invokevirtual 35, 3) := by decide +kernel
theorem dX1_heightOf_5 : decode cX1_heightOf 5 = .ok (.ifCond .eq 14, 3) := by decide +kernel
theorem dX1_heightOf_8 : decode cX1_heightOf 8 = .ok (.aload_n 0, 1) := by decide +kernel
theorem dX1_heightOf_9 : decode cX1_heightOf 9 = .ok (.getfield 15, 3) := by decide +kernel
theorem dX1_heightOf_12 : decode cX1_heightOf 12 = .ok (.iload_n 1, 1) := by decide +kernel
theorem dX1_heightOf_13 : decode cX1_heightOf 13 = .ok (.iconst 1, 1) := by decide +kernel
theorem dX1_heightOf_14 : decode cX1_heightOf 14 = .ok (.isub, 1) := by decide +kernel
theorem dX1_heightOf_15 : decode cX1_heightOf 15 = .ok (.iaload, 1) := by decide +kernel
theorem dX1_heightOf_16 : decode cX1_heightOf 16 = .ok (.goto 4, 3) := by decide +kernel
theorem dX1_heightOf_19 : decode cX1_heightOf 19 = .ok (.iconst 0, 1) := by decide +kernel
theorem dX1_heightOf_20 : decode cX1_heightOf 20 = .ok (.ireturn, 1) := by decide +kernel
set_option maxRecDepth 20000 in
theorem ggX1_wearOf_X1_has : GoodIn wsX1_wearOf wsX1_has := goodIn_r _ [6, 7, 8, 9, 10, 11, 12, 13, 14] (by decide +kernel) (by decide +kernel)
set_option maxRecDepth 20000 in
theorem gX1_wearOf_X1_has : GoodIn wsX1_wearOf (wsV RX1 35 RX1 yX1_has wsX1_has) := goodIn_app (goodIn_of _ (by decide +kernel)) ggX1_wearOf_X1_has
theorem dX1_wearOf_0 : decode cX1_wearOf 0 = .ok (.aload_n 0, 1) := by decide +kernel
theorem dX1_wearOf_1 : decode cX1_wearOf 1 = .ok (.iload_n 1, 1) := by decide +kernel
theorem dX1_wearOf_2 : decode cX1_wearOf 2 = .ok (.invokevirtual 35, 3) := by decide +kernel
theorem dX1_wearOf_5 : decode cX1_wearOf 5 = .ok (.ifCond .eq 14, 3) := by decide +kernel
theorem dX1_wearOf_8 : decode cX1_wearOf 8 = .ok (.aload_n 0, 1) := by decide +kernel
theorem dX1_wearOf_9 : decode cX1_wearOf 9 = .ok (.getfield 18, 3) := by decide +kernel
theorem dX1_wearOf_12 : decode cX1_wearOf 12 = .ok (.iload_n 1, 1) := by decide +kernel
theorem dX1_wearOf_13 : decode cX1_wearOf 13 = .ok (.iconst 1, 1) := by decide +kernel
theorem dX1_wearOf_14 : decode cX1_wearOf 14 = .ok (.isub, 1) := by decide +kernel
theorem dX1_wearOf_15 : decode cX1_wearOf 15 = .ok (.iaload, 1) := by decide +kernel
theorem dX1_wearOf_16 : decode cX1_wearOf 16 = .ok (.goto 4, 3) := by decide +kernel
theorem dX1_wearOf_19 : decode cX1_wearOf 19 = .ok (.iconst 0, 1) := by decide +kernel
theorem dX1_wearOf_20 : decode cX1_wearOf 20 = .ok (.ireturn, 1) := by decide +kernel
set_option maxRecDepth 20000 in
theorem ggX1_isTaken_X1_positionOf : GoodIn wsX1_isTaken wsX1_positionOf := goodIn_r _ [6, 7, 8, 9, 10, 5, 11, 1, 12, 13, 14, 15, 16, 17, 18] (by decide +kernel) (by decide +kernel)
set_option maxRecDepth 20000 in
theorem gX1_isTaken_X1_positionOf : GoodIn wsX1_isTaken (wsV RX1 39 RX1 yX1_positionOf wsX1_positionOf) := goodIn_app (goodIn_of _ (by decide +kernel)) ggX1_isTaken_X1_positionOf
theorem dX1_isTaken_0 : decode cX1_isTaken 0 = .ok (.iconst 1, 1) := by decide +kernel
theorem dX1_isTaken_1 : decode cX1_isTaken 1 = .ok (.istore_n 2, 1) := by decide +kernel
theorem dX1_isTaken_2 : decode cX1_isTaken 2 = .ok (.iload_n 2, 1) := by decide +kernel
theorem dX1_isTaken_3 : decode cX1_isTaken 3 = .ok (.aload_n 0, 1) := by decide +kernel
theorem dX1_isTaken_4 : decode cX1_isTaken 4 = .ok (.getfield 21, 3) := by decide +kernel
theorem dX1_isTaken_7 : decode cX1_isTaken 7 = .ok (.if_icmp .gt 20, 3) := by decide +kernel
theorem dX1_isTaken_10 : decode cX1_isTaken 10 = .ok (.aload_n 0, 1) := by decide +kernel
theorem dX1_isTaken_11 : decode cX1_isTaken 11 = .ok (.iload_n 2, 1) := by decide +kernel
theorem dX1_isTaken_12 : decode cX1_isTaken 12 = .ok (.invokevirtual 39, 3) := by decide +kernel
theorem dX1_isTaken_15 : decode cX1_isTaken 15 = .ok (.iload_n 1, 1) := by decide +kernel
theorem dX1_isTaken_16 : decode cX1_isTaken 16 = .ok (.if_icmp .ne 5, 3) := by decide +kernel
theorem dX1_isTaken_19 : decode cX1_isTaken 19 = .ok (.iconst 1, 1) := by decide +kernel
theorem dX1_isTaken_20 : decode cX1_isTaken 20 = .ok (.ireturn, 1) := by decide +kernel
theorem dX1_isTaken_21 : decode cX1_isTaken 21 = .ok (.iinc 2 1, 3) := by decide +kernel
theorem dX1_isTaken_24 : decode cX1_isTaken 24 = .ok (.goto (-22), 3) := by decide +kernel
theorem dX1_isTaken_27 : decode cX1_isTaken 27 = .ok (.iconst 0, 1) := by decide +kernel
theorem dX1_isTaken_28 : decode cX1_isTaken 28 = .ok (.ireturn, 1) := by decide +kernel
theorem dX1_insert_0 : decode cX1_insert 0 = .ok (.aload_n 0, 1) := by decide +kernel
theorem dX1_insert_1 : decode cX1_insert 1 = .ok (.getfield 21, 3) := by decide +kernel
theorem dX1_insert_4 : decode cX1_insert 4 = .ok (.bipush 12, 2) := by decide +kernel
theorem dX1_insert_6 : decode cX1_insert 6 = .ok (.if_icmp .lt 5, 3) := by decide +kernel
theorem dX1_insert_9 : decode cX1_insert 9 = .ok (.iconst 0, 1) := by decide +kernel
theorem dX1_insert_10 : decode cX1_insert 10 = .ok (.ireturn, 1) := by decide +kernel
theorem dX1_insert_11 : decode cX1_insert 11 = .ok (.aload_n 0, 1) := by decide +kernel
theorem dX1_insert_12 : decode cX1_insert 12 = .ok (.getfield 21, 3) := by decide +kernel
theorem dX1_insert_15 : decode cX1_insert 15 = .ok (.istore_n 3, 1) := by decide +kernel
theorem dX1_insert_16 : decode cX1_insert 16 = .ok (.iload_n 3, 1) := by decide +kernel
theorem dX1_insert_17 : decode cX1_insert 17 = .ok (.ifCond .le 63, 3) := by decide +kernel
theorem dX1_insert_20 : decode cX1_insert 20 = .ok (.aload_n 0, 1) := by decide +kernel
theorem dX1_insert_21 : decode cX1_insert 21 = .ok (.getfield 9, 3) := by decide +kernel
theorem dX1_insert_24 : decode cX1_insert 24 = .ok (.iload_n 3, 1) := by decide +kernel
theorem dX1_insert_25 : decode cX1_insert 25 = .ok (.iconst 1, 1) := by decide +kernel
theorem dX1_insert_26 : decode cX1_insert 26 = .ok (.isub, 1) := by decide +kernel
theorem dX1_insert_27 : decode cX1_insert 27 = .ok (.iaload, 1) := by decide +kernel
theorem dX1_insert_28 : decode cX1_insert 28 = .ok (.iload_n 1, 1) := by decide +kernel
theorem dX1_insert_29 : decode cX1_insert 29 = .ok (.if_icmp .le 51, 3) := by decide +kernel
theorem dX1_insert_32 : decode cX1_insert 32 = .ok (.aload_n 0, 1) := by decide +kernel
theorem dX1_insert_33 : decode cX1_insert 33 = .ok (.getfield 9, 3) := by decide +kernel
theorem dX1_insert_36 : decode cX1_insert 36 = .ok (.iload_n 3, 1) := by decide +kernel
theorem dX1_insert_37 : decode cX1_insert 37 = .ok (.aload_n 0, 1) := by decide +kernel
theorem dX1_insert_38 : decode cX1_insert 38 = .ok (.getfield 9, 3) := by decide +kernel
theorem dX1_insert_41 : decode cX1_insert 41 = .ok (.iload_n 3, 1) := by decide +kernel
theorem dX1_insert_42 : decode cX1_insert 42 = .ok (.iconst 1, 1) := by decide +kernel
theorem dX1_insert_43 : decode cX1_insert 43 = .ok (.isub, 1) := by decide +kernel
theorem dX1_insert_44 : decode cX1_insert 44 = .ok (.iaload, 1) := by decide +kernel
theorem dX1_insert_45 : decode cX1_insert 45 = .ok (.iastore, 1) := by decide +kernel
theorem dX1_insert_46 : decode cX1_insert 46 = .ok (.aload_n 0, 1) := by decide +kernel
theorem dX1_insert_47 : decode cX1_insert 47 = .ok (.getfield 15, 3) := by decide +kernel
theorem dX1_insert_50 : decode cX1_insert 50 = .ok (.iload_n 3, 1) := by decide +kernel
theorem dX1_insert_51 : decode cX1_insert 51 = .ok (.aload_n 0, 1) := by decide +kernel
theorem dX1_insert_52 : decode cX1_insert 52 = .ok (.getfield 15, 3) := by decide +kernel
theorem dX1_insert_55 : decode cX1_insert 55 = .ok (.iload_n 3, 1) := by decide +kernel
theorem dX1_insert_56 : decode cX1_insert 56 = .ok (.iconst 1, 1) := by decide +kernel
theorem dX1_insert_57 : decode cX1_insert 57 = .ok (.isub, 1) := by decide +kernel
theorem dX1_insert_58 : decode cX1_insert 58 = .ok (.iaload, 1) := by decide +kernel
theorem dX1_insert_59 : decode cX1_insert 59 = .ok (.iastore, 1) := by decide +kernel
theorem dX1_insert_60 : decode cX1_insert 60 = .ok (.aload_n 0, 1) := by decide +kernel
theorem dX1_insert_61 : decode cX1_insert 61 = .ok (.getfield 18, 3) := by decide +kernel
theorem dX1_insert_64 : decode cX1_insert 64 = .ok (.iload_n 3, 1) := by decide +kernel
theorem dX1_insert_65 : decode cX1_insert 65 = .ok (.aload_n 0, 1) := by decide +kernel
theorem dX1_insert_66 : decode cX1_insert 66 = .ok (.getfield 18, 3) := by decide +kernel
theorem dX1_insert_69 : decode cX1_insert 69 = .ok (.iload_n 3, 1) := by decide +kernel
theorem dX1_insert_70 : decode cX1_insert 70 = .ok (.iconst 1, 1) := by decide +kernel
theorem dX1_insert_71 : decode cX1_insert 71 = .ok (.isub, 1) := by decide +kernel
theorem dX1_insert_72 : decode cX1_insert 72 = .ok (.iaload, 1) := by decide +kernel
theorem dX1_insert_73 : decode cX1_insert 73 = .ok (.iastore, 1) := by decide +kernel
theorem dX1_insert_74 : decode cX1_insert 74 = .ok (.iinc 3 (-1), 3) := by decide +kernel
theorem dX1_insert_77 : decode cX1_insert 77 = .ok (.goto (-61), 3) := by decide +kernel
theorem dX1_insert_80 : decode cX1_insert 80 = .ok (.aload_n 0, 1) := by decide +kernel
theorem dX1_insert_81 : decode cX1_insert 81 = .ok (.getfield 9, 3) := by decide +kernel
theorem dX1_insert_84 : decode cX1_insert 84 = .ok (.iload_n 3, 1) := by decide +kernel
theorem dX1_insert_85 : decode cX1_insert 85 = .ok (.iload_n 1, 1) := by decide +kernel
theorem dX1_insert_86 : decode cX1_insert 86 = .ok (.iastore, 1) := by decide +kernel
theorem dX1_insert_87 : decode cX1_insert 87 = .ok (.aload_n 0, 1) := by decide +kernel
theorem dX1_insert_88 : decode cX1_insert 88 = .ok (.getfield 15, 3) := by decide +kernel
theorem dX1_insert_91 : decode cX1_insert 91 = .ok (.iload_n 3, 1) := by decide +kernel
theorem dX1_insert_92 : decode cX1_insert 92 = .ok (.iload_n 2, 1) := by decide +kernel
theorem dX1_insert_93 : decode cX1_insert 93 = .ok (.iastore, 1) := by decide +kernel
theorem dX1_insert_94 : decode cX1_insert 94 = .ok (.aload_n 0, 1) := by decide +kernel
theorem dX1_insert_95 : decode cX1_insert 95 = .ok (.getfield 18, 3) := by decide +kernel
theorem dX1_insert_98 : decode cX1_insert 98 = .ok (.iload_n 3, 1) := by decide +kernel
theorem dX1_insert_99 : decode cX1_insert 99 = .ok (.iconst 0, 1) := by decide +kernel
theorem dX1_insert_100 : decode cX1_insert 100 = .ok (.iastore, 1) := by decide +kernel
theorem dX1_insert_101 : decode cX1_insert 101 = .ok (.aload_n 0, 1) := by decide +kernel
theorem dX1_insert_102 : decode cX1_insert 102 = .ok (.dup, 1) := by decide +kernel
theorem dX1_insert_103 : decode cX1_insert 103 = .ok (.getfield 21, 3) := by decide +kernel
theorem dX1_insert_106 : decode cX1_insert 106 = .ok (.iconst 1, 1) := by decide +kernel
theorem dX1_insert_107 : decode cX1_insert 107 = .ok (.iadd, 1) := by decide +kernel
theorem dX1_insert_108 : decode cX1_insert 108 = .ok (.putfield 21, 3) := by decide +kernel
theorem dX1_insert_111 : decode cX1_insert 111 = .ok (.iload_n 3, 1) := by decide +kernel
theorem dX1_insert_112 : decode cX1_insert 112 = .ok (.iconst 1, 1) := by decide +kernel
theorem dX1_insert_113 : decode cX1_insert 113 = .ok (.iadd, 1) := by decide +kernel
theorem dX1_insert_114 : decode cX1_insert 114 = .ok (.ireturn, 1) := by decide +kernel
set_option maxRecDepth 20000 in
theorem ggX1_file_X1_has : GoodIn wsX1_file wsX1_has := goodIn_r _ [7, 8, 9, 10, 11, 12, 13, 14, 15] (by decide +kernel) (by decide +kernel)
set_option maxRecDepth 20000 in
theorem gX1_file_X1_has : GoodIn wsX1_file (wsV RX1 35 RX1 yX1_has wsX1_has) := goodIn_app (goodIn_of _ (by decide +kernel)) ggX1_file_X1_has
theorem dX1_file_0 : decode cX1_file 0 = .ok (.aload_n 0, 1) := by decide +kernel
theorem dX1_file_1 : decode cX1_file 1 = .ok (.iload_n 1, 1) := by decide +kernel
theorem dX1_file_2 : decode cX1_file 2 = .ok (.invokevirtual 35, 3) := by decide +kernel
theorem dX1_file_5 : decode cX1_file 5 = .ok (.ifCond .eq 21, 3) := by decide +kernel
theorem dX1_file_8 : decode cX1_file 8 = .ok (.aload_n 0, 1) := by decide +kernel
theorem dX1_file_9 : decode cX1_file 9 = .ok (.getfield 15, 3) := by decide +kernel
theorem dX1_file_12 : decode cX1_file 12 = .ok (.iload_n 1, 1) := by decide +kernel
theorem dX1_file_13 : decode cX1_file 13 = .ok (.iconst 1, 1) := by decide +kernel
theorem dX1_file_14 : decode cX1_file 14 = .ok (.isub, 1) := by decide +kernel
theorem dX1_file_15 : decode cX1_file 15 = .ok (.iload_n 2, 1) := by decide +kernel
theorem dX1_file_16 : decode cX1_file 16 = .ok (.iastore, 1) := by decide +kernel
theorem dX1_file_17 : decode cX1_file 17 = .ok (.aload_n 0, 1) := by decide +kernel
theorem dX1_file_18 : decode cX1_file 18 = .ok (.getfield 18, 3) := by decide +kernel
theorem dX1_file_21 : decode cX1_file 21 = .ok (.iload_n 1, 1) := by decide +kernel
theorem dX1_file_22 : decode cX1_file 22 = .ok (.iconst 1, 1) := by decide +kernel
theorem dX1_file_23 : decode cX1_file 23 = .ok (.isub, 1) := by decide +kernel
theorem dX1_file_24 : decode cX1_file 24 = .ok (.iconst 0, 1) := by decide +kernel
theorem dX1_file_25 : decode cX1_file 25 = .ok (.iastore, 1) := by decide +kernel
theorem dX1_file_26 : decode cX1_file 26 = .ok (.return_, 1) := by decide +kernel
set_option maxRecDepth 20000 in
theorem ggX1_wearBy_X1_has : GoodIn wsX1_wearBy wsX1_has := goodIn_r _ [14, 15, 16, 17, 18, 19, 20, 21, 22] (by decide +kernel) (by decide +kernel)
set_option maxRecDepth 20000 in
theorem gX1_wearBy_X1_has : GoodIn wsX1_wearBy (wsV RX1 35 RX1 yX1_has wsX1_has) := goodIn_app (goodIn_of _ (by decide +kernel)) ggX1_wearBy_X1_has
theorem dX1_wearBy_0 : decode cX1_wearBy 0 = .ok (.aload_n 0, 1) := by decide +kernel
theorem dX1_wearBy_1 : decode cX1_wearBy 1 = .ok (.iload_n 1, 1) := by decide +kernel
theorem dX1_wearBy_2 : decode cX1_wearBy 2 = .ok (.invokevirtual 35, 3) := by decide +kernel
theorem dX1_wearBy_5 : decode cX1_wearBy 5 = .ok (.ifCond .eq 8, 3) := by decide +kernel
theorem dX1_wearBy_8 : decode cX1_wearBy 8 = .ok (.iload_n 3, 1) := by decide +kernel
theorem dX1_wearBy_9 : decode cX1_wearBy 9 = .ok (.iconst 1, 1) := by decide +kernel
theorem dX1_wearBy_10 : decode cX1_wearBy 10 = .ok (.if_icmp .ge 5, 3) := by decide +kernel
theorem dX1_wearBy_13 : decode cX1_wearBy 13 = .ok (.iconst 0, 1) := by decide +kernel
theorem dX1_wearBy_14 : decode cX1_wearBy 14 = .ok (.ireturn, 1) := by decide +kernel
theorem dX1_wearBy_15 : decode cX1_wearBy 15 = .ok (.iload_n 1, 1) := by decide +kernel
theorem dX1_wearBy_16 : decode cX1_wearBy 16 = .ok (.iconst 1, 1) := by decide +kernel
theorem dX1_wearBy_17 : decode cX1_wearBy 17 = .ok (.isub, 1) := by decide +kernel
theorem dX1_wearBy_18 : decode cX1_wearBy 18 = .ok (.istore 4, 2) := by decide +kernel
theorem dX1_wearBy_20 : decode cX1_wearBy 20 = .ok (.aload_n 0, 1) := by decide +kernel
theorem dX1_wearBy_21 : decode cX1_wearBy 21 = .ok (.getfield 18, 3) := by decide +kernel
theorem dX1_wearBy_24 : decode cX1_wearBy 24 = .ok (.iload 4, 2) := by decide +kernel
theorem dX1_wearBy_26 : decode cX1_wearBy 26 = .ok (.dup2, 1) := by decide +kernel
theorem dX1_wearBy_27 : decode cX1_wearBy 27 = .ok (.iaload, 1) := by decide +kernel
theorem dX1_wearBy_28 : decode cX1_wearBy 28 = .ok (.iload_n 2, 1) := by decide +kernel
theorem dX1_wearBy_29 : decode cX1_wearBy 29 = .ok (.iadd, 1) := by decide +kernel
theorem dX1_wearBy_30 : decode cX1_wearBy 30 = .ok (.iastore, 1) := by decide +kernel
theorem dX1_wearBy_31 : decode cX1_wearBy 31 = .ok (.iconst 0, 1) := by decide +kernel
theorem dX1_wearBy_32 : decode cX1_wearBy 32 = .ok (.aload_n 0, 1) := by decide +kernel
theorem dX1_wearBy_33 : decode cX1_wearBy 33 = .ok (.getfield 15, 3) := by decide +kernel
theorem dX1_wearBy_36 : decode cX1_wearBy 36 = .ok (.iload 4, 2) := by decide +kernel
theorem dX1_wearBy_38 : decode cX1_wearBy 38 = .ok (.iaload, 1) := by decide +kernel
theorem dX1_wearBy_39 : decode cX1_wearBy 39 = .ok (.aload_n 0, 1) := by decide +kernel
theorem dX1_wearBy_40 : decode cX1_wearBy 40 = .ok (.getfield 18, 3) := by decide +kernel
theorem dX1_wearBy_43 : decode cX1_wearBy 43 = .ok (.iload 4, 2) := by decide +kernel
theorem dX1_wearBy_45 : decode cX1_wearBy 45 = .ok (.iaload, 1) := by decide +kernel
theorem dX1_wearBy_46 : decode cX1_wearBy 46 = .ok (.iload_n 3, 1) := by decide +kernel
theorem dX1_wearBy_47 : decode cX1_wearBy 47 = .ok (.idiv, 1) := by decide +kernel
theorem dX1_wearBy_48 : decode cX1_wearBy 48 = .ok (.invokestatic 43, 3) := by decide +kernel
theorem dX1_wearBy_51 : decode cX1_wearBy 51 = .ok (.invokestatic 49, 3) := by decide +kernel
theorem dX1_wearBy_54 : decode cX1_wearBy 54 = .ok (.istore 5, 2) := by decide +kernel
theorem dX1_wearBy_56 : decode cX1_wearBy 56 = .ok (.aload_n 0, 1) := by decide +kernel
theorem dX1_wearBy_57 : decode cX1_wearBy 57 = .ok (.getfield 18, 3) := by decide +kernel
theorem dX1_wearBy_60 : decode cX1_wearBy 60 = .ok (.iload 4, 2) := by decide +kernel
theorem dX1_wearBy_62 : decode cX1_wearBy 62 = .ok (.dup2, 1) := by decide +kernel
theorem dX1_wearBy_63 : decode cX1_wearBy 63 = .ok (.iaload, 1) := by decide +kernel
theorem dX1_wearBy_64 : decode cX1_wearBy 64 = .ok (.iload 5, 2) := by decide +kernel
theorem dX1_wearBy_66 : decode cX1_wearBy 66 = .ok (.iload_n 3, 1) := by decide +kernel
theorem dX1_wearBy_67 : decode cX1_wearBy 67 = .ok (.imul, 1) := by decide +kernel
theorem dX1_wearBy_68 : decode cX1_wearBy 68 = .ok (.isub, 1) := by decide +kernel
theorem dX1_wearBy_69 : decode cX1_wearBy 69 = .ok (.iastore, 1) := by decide +kernel
theorem dX1_wearBy_70 : decode cX1_wearBy 70 = .ok (.aload_n 0, 1) := by decide +kernel
theorem dX1_wearBy_71 : decode cX1_wearBy 71 = .ok (.getfield 15, 3) := by decide +kernel
theorem dX1_wearBy_74 : decode cX1_wearBy 74 = .ok (.iload 4, 2) := by decide +kernel
theorem dX1_wearBy_76 : decode cX1_wearBy 76 = .ok (.dup2, 1) := by decide +kernel
theorem dX1_wearBy_77 : decode cX1_wearBy 77 = .ok (.iaload, 1) := by decide +kernel
theorem dX1_wearBy_78 : decode cX1_wearBy 78 = .ok (.iload 5, 2) := by decide +kernel
theorem dX1_wearBy_80 : decode cX1_wearBy 80 = .ok (.isub, 1) := by decide +kernel
theorem dX1_wearBy_81 : decode cX1_wearBy 81 = .ok (.iastore, 1) := by decide +kernel
theorem dX1_wearBy_82 : decode cX1_wearBy 82 = .ok (.iload 5, 2) := by decide +kernel
theorem dX1_wearBy_84 : decode cX1_wearBy 84 = .ok (.ireturn, 1) := by decide +kernel
set_option maxRecDepth 20000 in
theorem ggX1_lineAt_X1_positionOf : GoodIn wsX1_lineAt wsX1_positionOf := goodIn_r _ [5, 6, 7, 8, 9, 4, 10, 11, 12, 13, 14, 24, 25, 26, 27] (by decide +kernel) (by decide +kernel)
set_option maxRecDepth 20000 in
theorem gX1_lineAt_X1_positionOf : GoodIn wsX1_lineAt (wsV RX1 39 RX1 yX1_positionOf wsX1_positionOf) := goodIn_app (goodIn_of _ (by decide +kernel)) ggX1_lineAt_X1_positionOf
set_option maxRecDepth 20000 in
theorem ggX1_lineAt_X1_heightOf : GoodIn wsX1_lineAt wsX1_heightOf := goodIn_r _ [18, 19, 7, 8, 9, 4, 10, 11, 12, 13, 14, 24, 25, 26, 27] (by decide +kernel) (by decide +kernel)
set_option maxRecDepth 20000 in
theorem gX1_lineAt_X1_heightOf : GoodIn wsX1_lineAt (wsV RX1 52 RX1 yX1_heightOf wsX1_heightOf) := goodIn_app (goodIn_of _ (by decide +kernel)) ggX1_lineAt_X1_heightOf
set_option maxRecDepth 20000 in
theorem ggX1_lineAt_J9_floorDiv_7cf53 : GoodIn wsX1_lineAt wsJ9_floorDiv_7cf53 := goodIn_r _ [23] (by decide +kernel) (by decide +kernel)
set_option maxRecDepth 20000 in
theorem gX1_lineAt_J9_floorDiv_7cf53 : GoodIn wsX1_lineAt (va_wsS RX1 55 yJ9_floorDiv_7cf53 wsJ9_floorDiv_7cf53) := goodIn_app (goodIn_of _ (by decide +kernel)) ggX1_lineAt_J9_floorDiv_7cf53
theorem dX1_lineAt_0 : decode cX1_lineAt 0 = .ok (.aload_n 0, 1) := by decide +kernel
theorem dX1_lineAt_1 : decode cX1_lineAt 1 = .ok (.iload_n 1, 1) := by decide +kernel
theorem dX1_lineAt_2 : decode cX1_lineAt 2 = .ok (.invokevirtual 39, 3) := by decide +kernel
theorem dX1_lineAt_5 : decode cX1_lineAt 5 = .ok (.istore_n 3, 1) := by decide +kernel
theorem dX1_lineAt_6 : decode cX1_lineAt 6 = .ok (.aload_n 0, 1) := by decide +kernel
theorem dX1_lineAt_7 : decode cX1_lineAt 7 = .ok (.iload_n 1, 1) := by decide +kernel
theorem dX1_lineAt_8 : decode cX1_lineAt 8 = .ok (.invokevirtual 52, 3) := by decide +kernel
theorem dX1_lineAt_11 : decode cX1_lineAt 11 = .ok (.istore 4, 2) := by decide +kernel
theorem dX1_lineAt_13 : decode cX1_lineAt 13 = .ok (.sipush 2520, 3) := by decide +kernel
theorem dX1_lineAt_16 : decode cX1_lineAt 16 = .ok (.iload_n 3, 1) := by decide +kernel
theorem dX1_lineAt_17 : decode cX1_lineAt 17 = .ok (.isub, 1) := by decide +kernel
theorem dX1_lineAt_18 : decode cX1_lineAt 18 = .ok (.istore 5, 2) := by decide +kernel
theorem dX1_lineAt_20 : decode cX1_lineAt 20 = .ok (.iload 5, 2) := by decide +kernel
theorem dX1_lineAt_22 : decode cX1_lineAt 22 = .ok (.iconst 1, 1) := by decide +kernel
theorem dX1_lineAt_23 : decode cX1_lineAt 23 = .ok (.if_icmp .ge 6, 3) := by decide +kernel
theorem dX1_lineAt_26 : decode cX1_lineAt 26 = .ok (.iload 4, 2) := by decide +kernel
theorem dX1_lineAt_28 : decode cX1_lineAt 28 = .ok (.ireturn, 1) := by decide +kernel
theorem dX1_lineAt_29 : decode cX1_lineAt 29 = .ok (.iload 4, 2) := by decide +kernel
theorem dX1_lineAt_31 : decode cX1_lineAt 31 = .ok (.sipush 1500, 3) := by decide +kernel
theorem dX1_lineAt_34 : decode cX1_lineAt 34 = .ok (.iload 4, 2) := by decide +kernel
theorem dX1_lineAt_36 : decode cX1_lineAt 36 = .ok (.isub, 1) := by decide +kernel
theorem dX1_lineAt_37 : decode cX1_lineAt 37 = .ok (.iload_n 2, 1) := by decide +kernel
theorem dX1_lineAt_38 : decode cX1_lineAt 38 = .ok (.iload_n 3, 1) := by decide +kernel
theorem dX1_lineAt_39 : decode cX1_lineAt 39 = .ok (.isub, 1) := by decide +kernel
theorem dX1_lineAt_40 : decode cX1_lineAt 40 = .ok (.imul, 1) := by decide +kernel
theorem dX1_lineAt_41 : decode cX1_lineAt 41 = .ok (.iload 5, 2) := by decide +kernel
theorem dX1_lineAt_43 : decode cX1_lineAt 43 = .ok (.invokestatic 55, 3) := by decide +kernel
theorem dX1_lineAt_46 : decode cX1_lineAt 46 = .ok (.iadd, 1) := by decide +kernel
theorem dX1_lineAt_47 : decode cX1_lineAt 47 = .ok (.ireturn, 1) := by decide +kernel
set_option maxRecDepth 20000 in
theorem ggX1_sourceFor_X1_has : GoodIn wsX1_sourceFor wsX1_has := goodIn_r _ [6, 1, 7, 8, 9, 28, 29, 30, 31] (by decide +kernel) (by decide +kernel)
set_option maxRecDepth 20000 in
theorem gX1_sourceFor_X1_has : GoodIn wsX1_sourceFor (wsV RX1 35 RX1 yX1_has wsX1_has) := goodIn_app (goodIn_of _ (by decide +kernel)) ggX1_sourceFor_X1_has
set_option maxRecDepth 20000 in
theorem ggX1_sourceFor_X1_heightOf : GoodIn wsX1_sourceFor wsX1_heightOf := goodIn_r _ [13, 14, 2, 3, 4, 5, 6, 1, 7, 8, 9, 28, 29, 30, 31] (by decide +kernel) (by decide +kernel)
set_option maxRecDepth 20000 in
theorem gX1_sourceFor_X1_heightOf : GoodIn wsX1_sourceFor (wsV RX1 52 RX1 yX1_heightOf wsX1_heightOf) := goodIn_app (goodIn_of _ (by decide +kernel)) ggX1_sourceFor_X1_heightOf
set_option maxRecDepth 20000 in
theorem ggX1_sourceFor_X1_positionOf : GoodIn wsX1_sourceFor wsX1_positionOf := goodIn_r _ [18, 19, 2, 3, 4, 5, 6, 1, 7, 8, 9, 28, 29, 30, 31] (by decide +kernel) (by decide +kernel)
set_option maxRecDepth 20000 in
theorem gX1_sourceFor_X1_positionOf : GoodIn wsX1_sourceFor (wsV RX1 39 RX1 yX1_positionOf wsX1_positionOf) := goodIn_app (goodIn_of _ (by decide +kernel)) ggX1_sourceFor_X1_positionOf
set_option maxRecDepth 20000 in
theorem ggX1_sourceFor_X1_lineAt : GoodIn wsX1_sourceFor wsX1_lineAt := goodIn_r _ [23, 15, 16, 17, 5, 18, 19, 2, 3, 4, 6, 1, 7, 8, 9, 10, 11, 12, 13, 14, 24, 25, 26, 27, 28, 29, 30, 31] (by decide +kernel) (by decide +kernel)
set_option maxRecDepth 20000 in
theorem gX1_sourceFor_X1_lineAt : GoodIn wsX1_sourceFor (wsV RX1 58 RX1 yX1_lineAt wsX1_lineAt) := goodIn_app (goodIn_of _ (by decide +kernel)) ggX1_sourceFor_X1_lineAt
theorem dX1_sourceFor_0 : decode cX1_sourceFor 0 = .ok (.aload_n 0, 1) := by decide +kernel
theorem dX1_sourceFor_1 : decode cX1_sourceFor 1 = .ok (.iload_n 1, 1) := by decide +kernel
theorem dX1_sourceFor_2 : decode cX1_sourceFor 2 = .ok (.invokevirtual 35, 3) := by decide +kernel
theorem dX1_sourceFor_5 : decode cX1_sourceFor 5 = .ok (.ifCond .ne 5, 3) := by decide +kernel
theorem dX1_sourceFor_8 : decode cX1_sourceFor 8 = .ok (.iconst 0, 1) := by decide +kernel
theorem dX1_sourceFor_9 : decode cX1_sourceFor 9 = .ok (.ireturn, 1) := by decide +kernel
theorem dX1_sourceFor_10 : decode cX1_sourceFor 10 = .ok (.iload_n 1, 1) := by decide +kernel
theorem dX1_sourceFor_11 : decode cX1_sourceFor 11 = .ok (.istore_n 2, 1) := by decide +kernel
theorem dX1_sourceFor_12 : decode cX1_sourceFor 12 = .ok (.iconst 0, 1) := by decide +kernel
theorem dX1_sourceFor_13 : decode cX1_sourceFor 13 = .ok (.istore_n 3, 1) := by decide +kernel
theorem dX1_sourceFor_14 : decode cX1_sourceFor 14 = .ok (.iload_n 1, 1) := by decide +kernel
theorem dX1_sourceFor_15 : decode cX1_sourceFor 15 = .ok (.iconst 1, 1) := by decide +kernel
theorem dX1_sourceFor_16 : decode cX1_sourceFor 16 = .ok (.iadd, 1) := by decide +kernel
theorem dX1_sourceFor_17 : decode cX1_sourceFor 17 = .ok (.istore 4, 2) := by decide +kernel
theorem dX1_sourceFor_19 : decode cX1_sourceFor 19 = .ok (.iload 4, 2) := by decide +kernel
theorem dX1_sourceFor_21 : decode cX1_sourceFor 21 = .ok (.aload_n 0, 1) := by decide +kernel
theorem dX1_sourceFor_22 : decode cX1_sourceFor 22 = .ok (.getfield 21, 3) := by decide +kernel
theorem dX1_sourceFor_25 : decode cX1_sourceFor 25 = .ok (.if_icmp .gt 41, 3) := by decide +kernel
theorem dX1_sourceFor_28 : decode cX1_sourceFor 28 = .ok (.aload_n 0, 1) := by decide +kernel
theorem dX1_sourceFor_29 : decode cX1_sourceFor 29 = .ok (.iload 4, 2) := by decide +kernel
theorem dX1_sourceFor_31 : decode cX1_sourceFor 31 = .ok (.invokevirtual 52, 3) := by decide +kernel
theorem dX1_sourceFor_34 : decode cX1_sourceFor 34 = .ok (.aload_n 0, 1) := by decide +kernel
theorem dX1_sourceFor_35 : decode cX1_sourceFor 35 = .ok (.iload_n 1, 1) := by decide +kernel
theorem dX1_sourceFor_36 : decode cX1_sourceFor 36 = .ok (.aload_n 0, 1) := by decide +kernel
theorem dX1_sourceFor_37 : decode cX1_sourceFor 37 = .ok (.iload 4, 2) := by decide +kernel
theorem dX1_sourceFor_39 : decode cX1_sourceFor 39 = .ok (.invokevirtual 39, 3) := by decide +kernel
theorem dX1_sourceFor_42 : decode cX1_sourceFor 42 = .ok (.invokevirtual 58, 3) := by decide +kernel
theorem dX1_sourceFor_45 : decode cX1_sourceFor 45 = .ok (.isub, 1) := by decide +kernel
theorem dX1_sourceFor_46 : decode cX1_sourceFor 46 = .ok (.istore 5, 2) := by decide +kernel
theorem dX1_sourceFor_48 : decode cX1_sourceFor 48 = .ok (.iload 5, 2) := by decide +kernel
theorem dX1_sourceFor_50 : decode cX1_sourceFor 50 = .ok (.iload_n 3, 1) := by decide +kernel
theorem dX1_sourceFor_51 : decode cX1_sourceFor 51 = .ok (.if_icmp .le 9, 3) := by decide +kernel
theorem dX1_sourceFor_54 : decode cX1_sourceFor 54 = .ok (.iload 5, 2) := by decide +kernel
theorem dX1_sourceFor_56 : decode cX1_sourceFor 56 = .ok (.istore_n 3, 1) := by decide +kernel
theorem dX1_sourceFor_57 : decode cX1_sourceFor 57 = .ok (.iload 4, 2) := by decide +kernel
theorem dX1_sourceFor_59 : decode cX1_sourceFor 59 = .ok (.istore_n 2, 1) := by decide +kernel
theorem dX1_sourceFor_60 : decode cX1_sourceFor 60 = .ok (.iinc 4 1, 3) := by decide +kernel
theorem dX1_sourceFor_63 : decode cX1_sourceFor 63 = .ok (.goto (-44), 3) := by decide +kernel
theorem dX1_sourceFor_66 : decode cX1_sourceFor 66 = .ok (.iload_n 2, 1) := by decide +kernel
theorem dX1_sourceFor_67 : decode cX1_sourceFor 67 = .ok (.ireturn, 1) := by decide +kernel
set_option maxRecDepth 20000 in
theorem ggX1_mostHeightFor_X1_positionOf : GoodIn wsX1_mostHeightFor wsX1_positionOf := goodIn_r _ [12, 13, 14, 15, 16, 11, 17, 18, 19, 20, 21, 35, 36, 37, 38] (by decide +kernel) (by decide +kernel)
set_option maxRecDepth 20000 in
theorem gX1_mostHeightFor_X1_positionOf : GoodIn wsX1_mostHeightFor (wsV RX1 39 RX1 yX1_positionOf wsX1_positionOf) := goodIn_app (goodIn_of _ (by decide +kernel)) ggX1_mostHeightFor_X1_positionOf
set_option maxRecDepth 20000 in
theorem ggX1_mostHeightFor_X1_lineAt : GoodIn wsX1_mostHeightFor wsX1_lineAt := goodIn_r _ [25, 8, 9, 10, 11, 12, 13, 14, 15, 16, 17, 18, 19, 20, 21, 26, 27, 28, 29, 30, 31, 32, 33, 34, 35, 36, 37, 38] (by decide +kernel) (by decide +kernel)
set_option maxRecDepth 20000 in
theorem gX1_mostHeightFor_X1_lineAt : GoodIn wsX1_mostHeightFor (wsV RX1 58 RX1 yX1_lineAt wsX1_lineAt) := goodIn_app (goodIn_of _ (by decide +kernel)) ggX1_mostHeightFor_X1_lineAt
theorem dX1_mostHeightFor_0 : decode cX1_mostHeightFor 0 = .ok (.sipush 2000, 3) := by decide +kernel
theorem dX1_mostHeightFor_3 : decode cX1_mostHeightFor 3 = .ok (.istore_n 2, 1) := by decide +kernel
theorem dX1_mostHeightFor_4 : decode cX1_mostHeightFor 4 = .ok (.iconst 1, 1) := by decide +kernel
theorem dX1_mostHeightFor_5 : decode cX1_mostHeightFor 5 = .ok (.istore_n 3, 1) := by decide +kernel
theorem dX1_mostHeightFor_6 : decode cX1_mostHeightFor 6 = .ok (.iload_n 3, 1) := by decide +kernel
theorem dX1_mostHeightFor_7 : decode cX1_mostHeightFor 7 = .ok (.iload_n 1, 1) := by decide +kernel
theorem dX1_mostHeightFor_8 : decode cX1_mostHeightFor 8 = .ok (.if_icmp .ge 24, 3) := by decide +kernel
theorem dX1_mostHeightFor_11 : decode cX1_mostHeightFor 11 = .ok (.iload_n 2, 1) := by decide +kernel
theorem dX1_mostHeightFor_12 : decode cX1_mostHeightFor 12 = .ok (.aload_n 0, 1) := by decide +kernel
theorem dX1_mostHeightFor_13 : decode cX1_mostHeightFor 13 = .ok (.iload_n 3, 1) := by decide +kernel
theorem dX1_mostHeightFor_14 : decode cX1_mostHeightFor 14 = .ok (.aload_n 0, 1) := by decide +kernel
theorem dX1_mostHeightFor_15 : decode cX1_mostHeightFor 15 = .ok (.iload_n 1, 1) := by decide +kernel
theorem dX1_mostHeightFor_16 : decode cX1_mostHeightFor 16 = .ok (.invokevirtual 39, 3) := by decide +kernel
theorem dX1_mostHeightFor_19 : decode cX1_mostHeightFor 19 = .ok (.invokevirtual 58, 3) := by decide +kernel
theorem dX1_mostHeightFor_22 : decode cX1_mostHeightFor 22 = .ok (.invokestatic 43, 3) := by decide +kernel
theorem dX1_mostHeightFor_25 : decode cX1_mostHeightFor 25 = .ok (.istore_n 2, 1) := by decide +kernel
theorem dX1_mostHeightFor_26 : decode cX1_mostHeightFor 26 = .ok (.iinc 3 1, 3) := by decide +kernel
theorem dX1_mostHeightFor_29 : decode cX1_mostHeightFor 29 = .ok (.goto (-23), 3) := by decide +kernel
theorem dX1_mostHeightFor_32 : decode cX1_mostHeightFor 32 = .ok (.iconst 0, 1) := by decide +kernel
theorem dX1_mostHeightFor_33 : decode cX1_mostHeightFor 33 = .ok (.iload_n 2, 1) := by decide +kernel
theorem dX1_mostHeightFor_34 : decode cX1_mostHeightFor 34 = .ok (.invokestatic 49, 3) := by decide +kernel
theorem dX1_mostHeightFor_37 : decode cX1_mostHeightFor 37 = .ok (.ireturn, 1) := by decide +kernel
