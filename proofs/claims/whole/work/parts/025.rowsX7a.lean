set_option maxRecDepth 20000 in
theorem ggX7_init_X7_puts : GoodIn wsX7_init wsX7_puts := goodIn_r _ [17, 5, 18, 19, 20, 21, 22, 23, 24, 25, 26, 27, 28, 29, 30] (by decide +kernel) (by decide +kernel)
set_option maxRecDepth 20000 in
theorem gX7_init_X7_puts : GoodIn wsX7_init (wsV RX7 23 RX7 yX7_puts wsX7_puts) := goodIn_app (goodIn_of _ (by decide +kernel)) ggX7_init_X7_puts
theorem dX7_init_0 : decode cX7_init 0 = .ok (.aload_n 0, 1) := by decide +kernel
theorem dX7_init_1 : decode cX7_init 1 = .ok (.invokespecial 1, 3) := by decide +kernel
theorem dX7_init_4 : decode cX7_init 4 = .ok (.aload_n 0, 1) := by decide +kernel
theorem dX7_init_5 : decode cX7_init 5 = .ok (.sipush 265, 3) := by decide +kernel
theorem dX7_init_8 : decode cX7_init 8 = .ok (.newarray .int, 2) := by decide +kernel
theorem dX7_init_10 : decode cX7_init 10 = .ok (.putfield 7, 3) := by decide +kernel
theorem dX7_init_13 : decode cX7_init 13 = .ok (.aload_n 0, 1) := by decide +kernel
theorem dX7_init_14 : decode cX7_init 14 = .ok (.sipush 1060, 3) := by decide +kernel
theorem dX7_init_17 : decode cX7_init 17 = .ok (.newarray .int, 2) := by decide +kernel
theorem dX7_init_19 : decode cX7_init 19 = .ok (.putfield 13, 3) := by decide +kernel
theorem dX7_init_22 : decode cX7_init 22 = .ok (.aload_n 0, 1) := by decide +kernel
theorem dX7_init_23 : decode cX7_init 23 = .ok (.bipush 80, 2) := by decide +kernel
theorem dX7_init_25 : decode cX7_init 25 = .ok (.newarray .int, 2) := by decide +kernel
theorem dX7_init_27 : decode cX7_init 27 = .ok (.putfield 16, 3) := by decide +kernel
theorem dX7_init_30 : decode cX7_init 30 = .ok (.aload_n 0, 1) := by decide +kernel
theorem dX7_init_31 : decode cX7_init 31 = .ok (.iconst 4, 1) := by decide +kernel
theorem dX7_init_32 : decode cX7_init 32 = .ok (.newarray .int, 2) := by decide +kernel
theorem dX7_init_34 : decode cX7_init 34 = .ok (.putfield 19, 3) := by decide +kernel
theorem dX7_init_37 : decode cX7_init 37 = .ok (.aload_n 0, 1) := by decide +kernel
theorem dX7_init_38 : decode cX7_init 38 = .ok (.getfield 7, 3) := by decide +kernel
theorem dX7_init_41 : decode cX7_init 41 = .ok (.iconst 4, 1) := by decide +kernel
theorem dX7_init_42 : decode cX7_init 42 = .ok (.bipush 10, 2) := by decide +kernel
theorem dX7_init_44 : decode cX7_init 44 = .ok (.iastore, 1) := by decide +kernel
theorem dX7_init_45 : decode cX7_init 45 = .ok (.aload_n 0, 1) := by decide +kernel
theorem dX7_init_46 : decode cX7_init 46 = .ok (.getfield 7, 3) := by decide +kernel
theorem dX7_init_49 : decode cX7_init 49 = .ok (.iconst 5, 1) := by decide +kernel
theorem dX7_init_50 : decode cX7_init 50 = .ok (.iconst 5, 1) := by decide +kernel
theorem dX7_init_51 : decode cX7_init 51 = .ok (.iastore, 1) := by decide +kernel
theorem dX7_init_52 : decode cX7_init 52 = .ok (.aload_n 0, 1) := by decide +kernel
theorem dX7_init_53 : decode cX7_init 53 = .ok (.getfield 7, 3) := by decide +kernel
theorem dX7_init_56 : decode cX7_init 56 = .ok (.bipush 6, 2) := by decide +kernel
theorem dX7_init_58 : decode cX7_init 58 = .ok (.sipush 500, 3) := by decide +kernel
theorem dX7_init_61 : decode cX7_init 61 = .ok (.iastore, 1) := by decide +kernel
theorem dX7_init_62 : decode cX7_init 62 = .ok (.aload_n 0, 1) := by decide +kernel
theorem dX7_init_63 : decode cX7_init 63 = .ok (.getfield 7, 3) := by decide +kernel
theorem dX7_init_66 : decode cX7_init 66 = .ok (.bipush 7, 2) := by decide +kernel
theorem dX7_init_68 : decode cX7_init 68 = .ok (.sipush 1000, 3) := by decide +kernel
theorem dX7_init_71 : decode cX7_init 71 = .ok (.iastore, 1) := by decide +kernel
theorem dX7_init_72 : decode cX7_init 72 = .ok (.aload_n 0, 1) := by decide +kernel
theorem dX7_init_73 : decode cX7_init 73 = .ok (.getfield 7, 3) := by decide +kernel
theorem dX7_init_76 : decode cX7_init 76 = .ok (.bipush 8, 2) := by decide +kernel
theorem dX7_init_78 : decode cX7_init 78 = .ok (.bipush 50, 2) := by decide +kernel
theorem dX7_init_80 : decode cX7_init 80 = .ok (.iastore, 1) := by decide +kernel
theorem dX7_init_81 : decode cX7_init 81 = .ok (.aload_n 0, 1) := by decide +kernel
theorem dX7_init_82 : decode cX7_init 82 = .ok (.iconst 0, 1) := by decide +kernel
theorem dX7_init_83 : decode cX7_init 83 = .ok (.iconst 0, 1) := by decide +kernel
theorem dX7_init_84 : decode cX7_init 84 = .ok (.ldc 22, 2) := by decide +kernel
theorem dX7_init_86 : decode cX7_init 86 = .ok (.invokevirtual 23, 3) := by decide +kernel
theorem dX7_init_89 : decode cX7_init 89 = .ok (.aload_n 0, 1) := by decide +kernel
theorem dX7_init_90 : decode cX7_init 90 = .ok (.iconst 1, 1) := by decide +kernel
theorem dX7_init_91 : decode cX7_init 91 = .ok (.iconst 0, 1) := by decide +kernel
theorem dX7_init_92 : decode cX7_init 92 = .ok (.ldc 27, 2) := by decide +kernel
theorem dX7_init_94 : decode cX7_init 94 = .ok (.invokevirtual 23, 3) := by decide +kernel
theorem dX7_init_97 : decode cX7_init 97 = .ok (.aload_n 0, 1) := by decide +kernel
theorem dX7_init_98 : decode cX7_init 98 = .ok (.iconst 2, 1) := by decide +kernel
theorem dX7_init_99 : decode cX7_init 99 = .ok (.iconst 0, 1) := by decide +kernel
theorem dX7_init_100 : decode cX7_init 100 = .ok (.ldc 28, 2) := by decide +kernel
theorem dX7_init_102 : decode cX7_init 102 = .ok (.invokevirtual 23, 3) := by decide +kernel
theorem dX7_init_105 : decode cX7_init 105 = .ok (.aload_n 0, 1) := by decide +kernel
theorem dX7_init_106 : decode cX7_init 106 = .ok (.iconst 3, 1) := by decide +kernel
theorem dX7_init_107 : decode cX7_init 107 = .ok (.iconst 0, 1) := by decide +kernel
theorem dX7_init_108 : decode cX7_init 108 = .ok (.ldc 29, 2) := by decide +kernel
theorem dX7_init_110 : decode cX7_init 110 = .ok (.invokevirtual 23, 3) := by decide +kernel
theorem dX7_init_113 : decode cX7_init 113 = .ok (.return_, 1) := by decide +kernel
theorem dX7_in_0 : decode cX7_in 0 = .ok (.iload_n 0, 1) := by decide +kernel
theorem dX7_in_1 : decode cX7_in 1 = .ok (.iload_n 1, 1) := by decide +kernel
theorem dX7_in_2 : decode cX7_in 2 = .ok (.if_icmp .lt 12, 3) := by decide +kernel
theorem dX7_in_5 : decode cX7_in 5 = .ok (.iload_n 0, 1) := by decide +kernel
theorem dX7_in_6 : decode cX7_in 6 = .ok (.iload_n 2, 1) := by decide +kernel
theorem dX7_in_7 : decode cX7_in 7 = .ok (.if_icmp .gt 7, 3) := by decide +kernel
theorem dX7_in_10 : decode cX7_in 10 = .ok (.iconst 1, 1) := by decide +kernel
theorem dX7_in_11 : decode cX7_in 11 = .ok (.goto 4, 3) := by decide +kernel
theorem dX7_in_14 : decode cX7_in 14 = .ok (.iconst 0, 1) := by decide +kernel
theorem dX7_in_15 : decode cX7_in 15 = .ok (.ireturn, 1) := by decide +kernel
theorem dX7_of_0 : decode cX7_of 0 = .ok (.aload_n 0, 1) := by decide +kernel
theorem dX7_of_1 : decode cX7_of 1 = .ok (.getfield 7, 3) := by decide +kernel
theorem dX7_of_4 : decode cX7_of 4 = .ok (.bipush 45, 2) := by decide +kernel
theorem dX7_of_6 : decode cX7_of 6 = .ok (.iconst 4, 1) := by decide +kernel
theorem dX7_of_7 : decode cX7_of 7 = .ok (.iload_n 1, 1) := by decide +kernel
theorem dX7_of_8 : decode cX7_of 8 = .ok (.imul, 1) := by decide +kernel
theorem dX7_of_9 : decode cX7_of 9 = .ok (.iadd, 1) := by decide +kernel
theorem dX7_of_10 : decode cX7_of 10 = .ok (.iload_n 2, 1) := by decide +kernel
theorem dX7_of_11 : decode cX7_of 11 = .ok (.iadd, 1) := by decide +kernel
theorem dX7_of_12 : decode cX7_of 12 = .ok (.iaload, 1) := by decide +kernel
theorem dX7_of_13 : decode cX7_of 13 = .ok (.ireturn, 1) := by decide +kernel
theorem dX7_puts_0 : decode cX7_puts 0 = .ok (.aload_n 0, 1) := by decide +kernel
theorem dX7_puts_1 : decode cX7_puts 1 = .ok (.getfield 7, 3) := by decide +kernel
theorem dX7_puts_4 : decode cX7_puts 4 = .ok (.bipush 45, 2) := by decide +kernel
theorem dX7_puts_6 : decode cX7_puts 6 = .ok (.iconst 4, 1) := by decide +kernel
theorem dX7_puts_7 : decode cX7_puts 7 = .ok (.iload_n 1, 1) := by decide +kernel
theorem dX7_puts_8 : decode cX7_puts 8 = .ok (.imul, 1) := by decide +kernel
theorem dX7_puts_9 : decode cX7_puts 9 = .ok (.iadd, 1) := by decide +kernel
theorem dX7_puts_10 : decode cX7_puts 10 = .ok (.iload_n 2, 1) := by decide +kernel
theorem dX7_puts_11 : decode cX7_puts 11 = .ok (.iadd, 1) := by decide +kernel
theorem dX7_puts_12 : decode cX7_puts 12 = .ok (.iload_n 3, 1) := by decide +kernel
theorem dX7_puts_13 : decode cX7_puts 13 = .ok (.iastore, 1) := by decide +kernel
theorem dX7_puts_14 : decode cX7_puts 14 = .ok (.return_, 1) := by decide +kernel
theorem dX7_on_0 : decode cX7_on 0 = .ok (.aload_n 0, 1) := by decide +kernel
theorem dX7_on_1 : decode cX7_on 1 = .ok (.getfield 7, 3) := by decide +kernel
theorem dX7_on_4 : decode cX7_on 4 = .ok (.bipush 9, 2) := by decide +kernel
theorem dX7_on_6 : decode cX7_on 6 = .ok (.iconst 3, 1) := by decide +kernel
theorem dX7_on_7 : decode cX7_on 7 = .ok (.iload_n 1, 1) := by decide +kernel
theorem dX7_on_8 : decode cX7_on 8 = .ok (.iconst 1, 1) := by decide +kernel
theorem dX7_on_9 : decode cX7_on 9 = .ok (.isub, 1) := by decide +kernel
theorem dX7_on_10 : decode cX7_on 10 = .ok (.imul, 1) := by decide +kernel
theorem dX7_on_11 : decode cX7_on 11 = .ok (.iadd, 1) := by decide +kernel
theorem dX7_on_12 : decode cX7_on 12 = .ok (.iload_n 2, 1) := by decide +kernel
theorem dX7_on_13 : decode cX7_on 13 = .ok (.iadd, 1) := by decide +kernel
theorem dX7_on_14 : decode cX7_on 14 = .ok (.iaload, 1) := by decide +kernel
theorem dX7_on_15 : decode cX7_on 15 = .ok (.ireturn, 1) := by decide +kernel
theorem dX7_lays_0 : decode cX7_lays 0 = .ok (.aload_n 0, 1) := by decide +kernel
theorem dX7_lays_1 : decode cX7_lays 1 = .ok (.getfield 7, 3) := by decide +kernel
theorem dX7_lays_4 : decode cX7_lays 4 = .ok (.bipush 9, 2) := by decide +kernel
theorem dX7_lays_6 : decode cX7_lays 6 = .ok (.iconst 3, 1) := by decide +kernel
theorem dX7_lays_7 : decode cX7_lays 7 = .ok (.iload_n 1, 1) := by decide +kernel
theorem dX7_lays_8 : decode cX7_lays 8 = .ok (.iconst 1, 1) := by decide +kernel
theorem dX7_lays_9 : decode cX7_lays 9 = .ok (.isub, 1) := by decide +kernel
theorem dX7_lays_10 : decode cX7_lays 10 = .ok (.imul, 1) := by decide +kernel
theorem dX7_lays_11 : decode cX7_lays 11 = .ok (.iadd, 1) := by decide +kernel
theorem dX7_lays_12 : decode cX7_lays 12 = .ok (.iload_n 2, 1) := by decide +kernel
theorem dX7_lays_13 : decode cX7_lays 13 = .ok (.iadd, 1) := by decide +kernel
theorem dX7_lays_14 : decode cX7_lays 14 = .ok (.iload_n 3, 1) := by decide +kernel
theorem dX7_lays_15 : decode cX7_lays 15 = .ok (.iastore, 1) := by decide +kernel
theorem dX7_lays_16 : decode cX7_lays 16 = .ok (.return_, 1) := by decide +kernel
theorem dX7_setting_0 : decode cX7_setting 0 = .ok (.aload_n 0, 1) := by decide +kernel
theorem dX7_setting_1 : decode cX7_setting 1 = .ok (.getfield 7, 3) := by decide +kernel
theorem dX7_setting_4 : decode cX7_setting 4 = .ok (.iconst 4, 1) := by decide +kernel
theorem dX7_setting_5 : decode cX7_setting 5 = .ok (.iload_n 1, 1) := by decide +kernel
theorem dX7_setting_6 : decode cX7_setting 6 = .ok (.iadd, 1) := by decide +kernel
theorem dX7_setting_7 : decode cX7_setting 7 = .ok (.iaload, 1) := by decide +kernel
theorem dX7_setting_8 : decode cX7_setting 8 = .ok (.ireturn, 1) := by decide +kernel
set_option maxRecDepth 20000 in
theorem ggX7_isString_X7_in : GoodIn wsX7_isString wsX7_in := goodIn_r _ [4] (by decide +kernel) (by decide +kernel)
set_option maxRecDepth 20000 in
theorem gX7_isString_X7_in : GoodIn wsX7_isString (va_wsS RX7 30 yX7_in wsX7_in) := goodIn_app (goodIn_of _ (by decide +kernel)) ggX7_isString_X7_in
theorem dX7_isString_0 : decode cX7_isString 0 = .ok (.iload_n 0, 1) := by decide +kernel
theorem dX7_isString_1 : decode cX7_isString 1 = .ok (.iconst 0, 1) := by decide +kernel
theorem dX7_isString_2 : decode cX7_isString 2 = .ok (.iconst 3, 1) := by decide +kernel
theorem dX7_isString_3 : decode cX7_isString 3 = .ok (.invokestatic 30, 3) := by decide +kernel
theorem dX7_isString_6 : decode cX7_isString 6 = .ok (.ireturn, 1) := by decide +kernel
set_option maxRecDepth 20000 in
theorem ggX7_isMode_X7_in : GoodIn wsX7_isMode wsX7_in := goodIn_r _ [4] (by decide +kernel) (by decide +kernel)
set_option maxRecDepth 20000 in
theorem gX7_isMode_X7_in : GoodIn wsX7_isMode (va_wsS RX7 30 yX7_in wsX7_in) := goodIn_app (goodIn_of _ (by decide +kernel)) ggX7_isMode_X7_in
theorem dX7_isMode_0 : decode cX7_isMode 0 = .ok (.iload_n 0, 1) := by decide +kernel
theorem dX7_isMode_1 : decode cX7_isMode 1 = .ok (.iconst 1, 1) := by decide +kernel
theorem dX7_isMode_2 : decode cX7_isMode 2 = .ok (.bipush 12, 2) := by decide +kernel
theorem dX7_isMode_4 : decode cX7_isMode 4 = .ok (.invokestatic 30, 3) := by decide +kernel
theorem dX7_isMode_7 : decode cX7_isMode 7 = .ok (.ireturn, 1) := by decide +kernel
set_option maxRecDepth 20000 in
theorem ggX7_isFret_X7_in : GoodIn wsX7_isFret wsX7_in := goodIn_r _ [5] (by decide +kernel) (by decide +kernel)
set_option maxRecDepth 20000 in
theorem gX7_isFret_X7_in : GoodIn wsX7_isFret (va_wsS RX7 30 yX7_in wsX7_in) := goodIn_app (goodIn_of _ (by decide +kernel)) ggX7_isFret_X7_in
theorem dX7_isFret_0 : decode cX7_isFret 0 = .ok (.iload_n 1, 1) := by decide +kernel
theorem dX7_isFret_1 : decode cX7_isFret 1 = .ok (.iconst 1, 1) := by decide +kernel
theorem dX7_isFret_2 : decode cX7_isFret 2 = .ok (.aload_n 0, 1) := by decide +kernel
theorem dX7_isFret_3 : decode cX7_isFret 3 = .ok (.getfield 7, 3) := by decide +kernel
theorem dX7_isFret_6 : decode cX7_isFret 6 = .ok (.iconst 0, 1) := by decide +kernel
theorem dX7_isFret_7 : decode cX7_isFret 7 = .ok (.iaload, 1) := by decide +kernel
theorem dX7_isFret_8 : decode cX7_isFret 8 = .ok (.invokestatic 30, 3) := by decide +kernel
theorem dX7_isFret_11 : decode cX7_isFret 11 = .ok (.ireturn, 1) := by decide +kernel
theorem dX7_records_0 : decode cX7_records 0 = .ok (.aload_n 0, 1) := by decide +kernel
theorem dX7_records_1 : decode cX7_records 1 = .ok (.getfield 34, 3) := by decide +kernel
theorem dX7_records_4 : decode cX7_records 4 = .ok (.iconst 4, 1) := by decide +kernel
theorem dX7_records_5 : decode cX7_records 5 = .ok (.if_icmp .ne 44, 3) := by decide +kernel
theorem dX7_records_8 : decode cX7_records 8 = .ok (.iconst 0, 1) := by decide +kernel
theorem dX7_records_9 : decode cX7_records 9 = .ok (.istore_n 1, 1) := by decide +kernel
theorem dX7_records_10 : decode cX7_records 10 = .ok (.iload_n 1, 1) := by decide +kernel
theorem dX7_records_11 : decode cX7_records 11 = .ok (.sipush 795, 3) := by decide +kernel
theorem dX7_records_14 : decode cX7_records 14 = .ok (.if_icmp .ge 25, 3) := by decide +kernel
theorem dX7_records_17 : decode cX7_records 17 = .ok (.aload_n 0, 1) := by decide +kernel
theorem dX7_records_18 : decode cX7_records 18 = .ok (.getfield 13, 3) := by decide +kernel
theorem dX7_records_21 : decode cX7_records 21 = .ok (.iload_n 1, 1) := by decide +kernel
theorem dX7_records_22 : decode cX7_records 22 = .ok (.aload_n 0, 1) := by decide +kernel
theorem dX7_records_23 : decode cX7_records 23 = .ok (.getfield 13, 3) := by decide +kernel
theorem dX7_records_26 : decode cX7_records 26 = .ok (.iload_n 1, 1) := by decide +kernel
theorem dX7_records_27 : decode cX7_records 27 = .ok (.sipush 265, 3) := by decide +kernel
theorem dX7_records_30 : decode cX7_records 30 = .ok (.iadd, 1) := by decide +kernel
theorem dX7_records_31 : decode cX7_records 31 = .ok (.iaload, 1) := by decide +kernel
theorem dX7_records_32 : decode cX7_records 32 = .ok (.iastore, 1) := by decide +kernel
theorem dX7_records_33 : decode cX7_records 33 = .ok (.iinc 1 1, 3) := by decide +kernel
theorem dX7_records_36 : decode cX7_records 36 = .ok (.goto (-26), 3) := by decide +kernel
theorem dX7_records_39 : decode cX7_records 39 = .ok (.aload_n 0, 1) := by decide +kernel
theorem dX7_records_40 : decode cX7_records 40 = .ok (.dup, 1) := by decide +kernel
theorem dX7_records_41 : decode cX7_records 41 = .ok (.getfield 34, 3) := by decide +kernel
theorem dX7_records_44 : decode cX7_records 44 = .ok (.iconst 1, 1) := by decide +kernel
theorem dX7_records_45 : decode cX7_records 45 = .ok (.isub, 1) := by decide +kernel
theorem dX7_records_46 : decode cX7_records 46 = .ok (.putfield 34, 3) := by decide +kernel
theorem dX7_records_49 : decode cX7_records 49 = .ok (.iconst 0, 1) := by decide +kernel
theorem dX7_records_50 : decode cX7_records 50 = .ok (.istore_n 1, 1) := by decide +kernel
theorem dX7_records_51 : decode cX7_records 51 = .ok (.iload_n 1, 1) := by decide +kernel
theorem dX7_records_52 : decode cX7_records 52 = .ok (.sipush 265, 3) := by decide +kernel
theorem dX7_records_55 : decode cX7_records 55 = .ok (.if_icmp .ge 30, 3) := by decide +kernel
theorem dX7_records_58 : decode cX7_records 58 = .ok (.aload_n 0, 1) := by decide +kernel
theorem dX7_records_59 : decode cX7_records 59 = .ok (.getfield 13, 3) := by decide +kernel
theorem dX7_records_62 : decode cX7_records 62 = .ok (.sipush 265, 3) := by decide +kernel
theorem dX7_records_65 : decode cX7_records 65 = .ok (.aload_n 0, 1) := by decide +kernel
theorem dX7_records_66 : decode cX7_records 66 = .ok (.getfield 34, 3) := by decide +kernel
theorem dX7_records_69 : decode cX7_records 69 = .ok (.imul, 1) := by decide +kernel
theorem dX7_records_70 : decode cX7_records 70 = .ok (.iload_n 1, 1) := by decide +kernel
theorem dX7_records_71 : decode cX7_records 71 = .ok (.iadd, 1) := by decide +kernel
theorem dX7_records_72 : decode cX7_records 72 = .ok (.aload_n 0, 1) := by decide +kernel
theorem dX7_records_73 : decode cX7_records 73 = .ok (.getfield 7, 3) := by decide +kernel
theorem dX7_records_76 : decode cX7_records 76 = .ok (.iload_n 1, 1) := by decide +kernel
theorem dX7_records_77 : decode cX7_records 77 = .ok (.iaload, 1) := by decide +kernel
theorem dX7_records_78 : decode cX7_records 78 = .ok (.iastore, 1) := by decide +kernel
theorem dX7_records_79 : decode cX7_records 79 = .ok (.iinc 1 1, 3) := by decide +kernel
theorem dX7_records_82 : decode cX7_records 82 = .ok (.goto (-31), 3) := by decide +kernel
theorem dX7_records_85 : decode cX7_records 85 = .ok (.aload_n 0, 1) := by decide +kernel
theorem dX7_records_86 : decode cX7_records 86 = .ok (.dup, 1) := by decide +kernel
theorem dX7_records_87 : decode cX7_records 87 = .ok (.getfield 34, 3) := by decide +kernel
theorem dX7_records_90 : decode cX7_records 90 = .ok (.iconst 1, 1) := by decide +kernel
theorem dX7_records_91 : decode cX7_records 91 = .ok (.iadd, 1) := by decide +kernel
theorem dX7_records_92 : decode cX7_records 92 = .ok (.putfield 34, 3) := by decide +kernel
theorem dX7_records_95 : decode cX7_records 95 = .ok (.return_, 1) := by decide +kernel
theorem dX7_undo_0 : decode cX7_undo 0 = .ok (.aload_n 0, 1) := by decide +kernel
theorem dX7_undo_1 : decode cX7_undo 1 = .ok (.getfield 34, 3) := by decide +kernel
theorem dX7_undo_4 : decode cX7_undo 4 = .ok (.ifCond .ne 6, 3) := by decide +kernel
theorem dX7_undo_7 : decode cX7_undo 7 = .ok (.bipush (-2), 2) := by decide +kernel
theorem dX7_undo_9 : decode cX7_undo 9 = .ok (.ireturn, 1) := by decide +kernel
theorem dX7_undo_10 : decode cX7_undo 10 = .ok (.aload_n 0, 1) := by decide +kernel
theorem dX7_undo_11 : decode cX7_undo 11 = .ok (.dup, 1) := by decide +kernel
theorem dX7_undo_12 : decode cX7_undo 12 = .ok (.getfield 34, 3) := by decide +kernel
theorem dX7_undo_15 : decode cX7_undo 15 = .ok (.iconst 1, 1) := by decide +kernel
theorem dX7_undo_16 : decode cX7_undo 16 = .ok (.isub, 1) := by decide +kernel
theorem dX7_undo_17 : decode cX7_undo 17 = .ok (.putfield 34, 3) := by decide +kernel
theorem dX7_undo_20 : decode cX7_undo 20 = .ok (.iconst 0, 1) := by decide +kernel
theorem dX7_undo_21 : decode cX7_undo 21 = .ok (.istore_n 1, 1) := by decide +kernel
theorem dX7_undo_22 : decode cX7_undo 22 = .ok (.iload_n 1, 1) := by decide +kernel
theorem dX7_undo_23 : decode cX7_undo 23 = .ok (.sipush 265, 3) := by decide +kernel
theorem dX7_undo_26 : decode cX7_undo 26 = .ok (.if_icmp .ge 30, 3) := by decide +kernel
theorem dX7_undo_29 : decode cX7_undo 29 = .ok (.aload_n 0, 1) := by decide +kernel
theorem dX7_undo_30 : decode cX7_undo 30 = .ok (.getfield 7, 3) := by decide +kernel
theorem dX7_undo_33 : decode cX7_undo 33 = .ok (.iload_n 1, 1) := by decide +kernel
theorem dX7_undo_34 : decode cX7_undo 34 = .ok (.aload_n 0, 1) := by decide +kernel
theorem dX7_undo_35 : decode cX7_undo 35 = .ok (.getfield 13, 3) := by decide +kernel
theorem dX7_undo_38 : decode cX7_undo 38 = .ok (.sipush 265, 3) := by decide +kernel
theorem dX7_undo_41 : decode cX7_undo 41 = .ok (.aload_n 0, 1) := by decide +kernel
theorem dX7_undo_42 : decode cX7_undo 42 = .ok (.getfield 34, 3) := by decide +kernel
theorem dX7_undo_45 : decode cX7_undo 45 = .ok (.imul, 1) := by decide +kernel
theorem dX7_undo_46 : decode cX7_undo 46 = .ok (.iload_n 1, 1) := by decide +kernel
theorem dX7_undo_47 : decode cX7_undo 47 = .ok (.iadd, 1) := by decide +kernel
theorem dX7_undo_48 : decode cX7_undo 48 = .ok (.iaload, 1) := by decide +kernel
theorem dX7_undo_49 : decode cX7_undo 49 = .ok (.iastore, 1) := by decide +kernel
theorem dX7_undo_50 : decode cX7_undo 50 = .ok (.iinc 1 1, 3) := by decide +kernel
theorem dX7_undo_53 : decode cX7_undo 53 = .ok (.goto (-31), 3) := by decide +kernel
theorem dX7_undo_56 : decode cX7_undo 56 = .ok (.aload_n 0, 1) := by decide +kernel
theorem dX7_undo_57 : decode cX7_undo 57 = .ok (.getfield 34, 3) := by decide +kernel
theorem dX7_undo_60 : decode cX7_undo 60 = .ok (.ireturn, 1) := by decide +kernel
theorem dX7_floor_0 : decode cX7_floor 0 = .ok (.iload_n 0, 1) := by decide +kernel
theorem dX7_floor_1 : decode cX7_floor 1 = .ok (.iload_n 1, 1) := by decide +kernel
theorem dX7_floor_2 : decode cX7_floor 2 = .ok (.idiv, 1) := by decide +kernel
theorem dX7_floor_3 : decode cX7_floor 3 = .ok (.istore_n 2, 1) := by decide +kernel
theorem dX7_floor_4 : decode cX7_floor 4 = .ok (.iload_n 0, 1) := by decide +kernel
theorem dX7_floor_5 : decode cX7_floor 5 = .ok (.iload_n 1, 1) := by decide +kernel
theorem dX7_floor_6 : decode cX7_floor 6 = .ok (.irem, 1) := by decide +kernel
theorem dX7_floor_7 : decode cX7_floor 7 = .ok (.ifCond .ge 9, 3) := by decide +kernel
theorem dX7_floor_10 : decode cX7_floor 10 = .ok (.iload_n 2, 1) := by decide +kernel
theorem dX7_floor_11 : decode cX7_floor 11 = .ok (.iconst 1, 1) := by decide +kernel
theorem dX7_floor_12 : decode cX7_floor 12 = .ok (.isub, 1) := by decide +kernel
theorem dX7_floor_13 : decode cX7_floor 13 = .ok (.goto 4, 3) := by decide +kernel
theorem dX7_floor_16 : decode cX7_floor 16 = .ok (.iload_n 2, 1) := by decide +kernel
theorem dX7_floor_17 : decode cX7_floor 17 = .ok (.ireturn, 1) := by decide +kernel
set_option maxRecDepth 20000 in
theorem ggX7_lineOf_X7_on : GoodIn wsX7_lineOf wsX7_on := goodIn_r _ [5, 6, 10, 11, 12, 13, 14, 15, 16, 17, 18, 19, 20, 21, 22] (by decide +kernel) (by decide +kernel)
set_option maxRecDepth 20000 in
theorem gX7_lineOf_X7_on : GoodIn wsX7_lineOf (wsV RX7 38 RX7 yX7_on wsX7_on) := goodIn_app (goodIn_of _ (by decide +kernel)) ggX7_lineOf_X7_on
set_option maxRecDepth 20000 in
theorem ggX7_lineOf_X7_floor : GoodIn wsX7_lineOf wsX7_floor := goodIn_r _ [9] (by decide +kernel) (by decide +kernel)
set_option maxRecDepth 20000 in
theorem gX7_lineOf_X7_floor : GoodIn wsX7_lineOf (va_wsS RX7 42 yX7_floor wsX7_floor) := goodIn_app (goodIn_of _ (by decide +kernel)) ggX7_lineOf_X7_floor
theorem dX7_lineOf_0 : decode cX7_lineOf 0 = .ok (.aload_n 0, 1) := by decide +kernel
theorem dX7_lineOf_1 : decode cX7_lineOf 1 = .ok (.iload_n 1, 1) := by decide +kernel
theorem dX7_lineOf_2 : decode cX7_lineOf 2 = .ok (.iconst 1, 1) := by decide +kernel
theorem dX7_lineOf_3 : decode cX7_lineOf 3 = .ok (.invokevirtual 38, 3) := by decide +kernel
theorem dX7_lineOf_6 : decode cX7_lineOf 6 = .ok (.istore_n 3, 1) := by decide +kernel
theorem dX7_lineOf_7 : decode cX7_lineOf 7 = .ok (.aload_n 0, 1) := by decide +kernel
theorem dX7_lineOf_8 : decode cX7_lineOf 8 = .ok (.iload_n 1, 1) := by decide +kernel
theorem dX7_lineOf_9 : decode cX7_lineOf 9 = .ok (.iconst 0, 1) := by decide +kernel
theorem dX7_lineOf_10 : decode cX7_lineOf 10 = .ok (.invokevirtual 38, 3) := by decide +kernel
theorem dX7_lineOf_13 : decode cX7_lineOf 13 = .ok (.istore 4, 2) := by decide +kernel
theorem dX7_lineOf_15 : decode cX7_lineOf 15 = .ok (.iload_n 3, 1) := by decide +kernel
theorem dX7_lineOf_16 : decode cX7_lineOf 16 = .ok (.sipush 1500, 3) := by decide +kernel
theorem dX7_lineOf_19 : decode cX7_lineOf 19 = .ok (.iload_n 3, 1) := by decide +kernel
theorem dX7_lineOf_20 : decode cX7_lineOf 20 = .ok (.isub, 1) := by decide +kernel
theorem dX7_lineOf_21 : decode cX7_lineOf 21 = .ok (.iload_n 2, 1) := by decide +kernel
theorem dX7_lineOf_22 : decode cX7_lineOf 22 = .ok (.iload 4, 2) := by decide +kernel
theorem dX7_lineOf_24 : decode cX7_lineOf 24 = .ok (.isub, 1) := by decide +kernel
theorem dX7_lineOf_25 : decode cX7_lineOf 25 = .ok (.imul, 1) := by decide +kernel
theorem dX7_lineOf_26 : decode cX7_lineOf 26 = .ok (.sipush 2520, 3) := by decide +kernel
theorem dX7_lineOf_29 : decode cX7_lineOf 29 = .ok (.iload 4, 2) := by decide +kernel
theorem dX7_lineOf_31 : decode cX7_lineOf 31 = .ok (.isub, 1) := by decide +kernel
theorem dX7_lineOf_32 : decode cX7_lineOf 32 = .ok (.invokestatic 42, 3) := by decide +kernel
theorem dX7_lineOf_35 : decode cX7_lineOf 35 = .ok (.iadd, 1) := by decide +kernel
theorem dX7_lineOf_36 : decode cX7_lineOf 36 = .ok (.ireturn, 1) := by decide +kernel
set_option maxRecDepth 20000 in
theorem ggX7_soundingFret_X7_on : GoodIn wsX7_soundingFret wsX7_on := goodIn_r _ [6, 1, 14, 15, 16, 17, 18, 19, 20, 21, 22, 23, 24, 25, 26] (by decide +kernel) (by decide +kernel)
set_option maxRecDepth 20000 in
theorem gX7_soundingFret_X7_on : GoodIn wsX7_soundingFret (wsV RX7 38 RX7 yX7_on wsX7_on) := goodIn_app (goodIn_of _ (by decide +kernel)) ggX7_soundingFret_X7_on
set_option maxRecDepth 20000 in
theorem ggX7_soundingFret_X7_lineOf : GoodIn wsX7_soundingFret wsX7_lineOf := goodIn_r _ [10, 2, 3, 4, 5, 6, 1, 11, 12, 13, 14, 15, 16, 17, 18, 19, 20, 21, 22, 23, 24, 25, 26] (by decide +kernel) (by decide +kernel)
set_option maxRecDepth 20000 in
theorem gX7_soundingFret_X7_lineOf : GoodIn wsX7_soundingFret (wsV RX7 45 RX7 yX7_lineOf wsX7_lineOf) := goodIn_app (goodIn_of _ (by decide +kernel)) ggX7_soundingFret_X7_lineOf
theorem dX7_soundingFret_0 : decode cX7_soundingFret 0 = .ok (.iload_n 1, 1) := by decide +kernel
theorem dX7_soundingFret_1 : decode cX7_soundingFret 1 = .ok (.istore_n 2, 1) := by decide +kernel
theorem dX7_soundingFret_2 : decode cX7_soundingFret 2 = .ok (.iconst 0, 1) := by decide +kernel
theorem dX7_soundingFret_3 : decode cX7_soundingFret 3 = .ok (.istore_n 3, 1) := by decide +kernel
theorem dX7_soundingFret_4 : decode cX7_soundingFret 4 = .ok (.iload_n 1, 1) := by decide +kernel
theorem dX7_soundingFret_5 : decode cX7_soundingFret 5 = .ok (.iconst 1, 1) := by decide +kernel
theorem dX7_soundingFret_6 : decode cX7_soundingFret 6 = .ok (.iadd, 1) := by decide +kernel
theorem dX7_soundingFret_7 : decode cX7_soundingFret 7 = .ok (.istore 4, 2) := by decide +kernel
theorem dX7_soundingFret_9 : decode cX7_soundingFret 9 = .ok (.iload 4, 2) := by decide +kernel
theorem dX7_soundingFret_11 : decode cX7_soundingFret 11 = .ok (.aload_n 0, 1) := by decide +kernel
theorem dX7_soundingFret_12 : decode cX7_soundingFret 12 = .ok (.getfield 7, 3) := by decide +kernel
theorem dX7_soundingFret_15 : decode cX7_soundingFret 15 = .ok (.iconst 0, 1) := by decide +kernel
theorem dX7_soundingFret_16 : decode cX7_soundingFret 16 = .ok (.iaload, 1) := by decide +kernel
theorem dX7_soundingFret_17 : decode cX7_soundingFret 17 = .ok (.if_icmp .gt 61, 3) := by decide +kernel
theorem dX7_soundingFret_20 : decode cX7_soundingFret 20 = .ok (.iload_n 1, 1) := by decide +kernel
theorem dX7_soundingFret_21 : decode cX7_soundingFret 21 = .ok (.ifCond .le 57, 3) := by decide +kernel
theorem dX7_soundingFret_24 : decode cX7_soundingFret 24 = .ok (.aload_n 0, 1) := by decide +kernel
theorem dX7_soundingFret_25 : decode cX7_soundingFret 25 = .ok (.iload 4, 2) := by decide +kernel
theorem dX7_soundingFret_27 : decode cX7_soundingFret 27 = .ok (.iconst 1, 1) := by decide +kernel
theorem dX7_soundingFret_28 : decode cX7_soundingFret 28 = .ok (.invokevirtual 38, 3) := by decide +kernel
theorem dX7_soundingFret_31 : decode cX7_soundingFret 31 = .ok (.aload_n 0, 1) := by decide +kernel
theorem dX7_soundingFret_32 : decode cX7_soundingFret 32 = .ok (.iload_n 1, 1) := by decide +kernel
theorem dX7_soundingFret_33 : decode cX7_soundingFret 33 = .ok (.aload_n 0, 1) := by decide +kernel
theorem dX7_soundingFret_34 : decode cX7_soundingFret 34 = .ok (.iload 4, 2) := by decide +kernel
theorem dX7_soundingFret_36 : decode cX7_soundingFret 36 = .ok (.iconst 0, 1) := by decide +kernel
theorem dX7_soundingFret_37 : decode cX7_soundingFret 37 = .ok (.invokevirtual 38, 3) := by decide +kernel
theorem dX7_soundingFret_40 : decode cX7_soundingFret 40 = .ok (.invokevirtual 45, 3) := by decide +kernel
theorem dX7_soundingFret_43 : decode cX7_soundingFret 43 = .ok (.isub, 1) := by decide +kernel
theorem dX7_soundingFret_44 : decode cX7_soundingFret 44 = .ok (.istore 5, 2) := by decide +kernel
theorem dX7_soundingFret_46 : decode cX7_soundingFret 46 = .ok (.iload 5, 2) := by decide +kernel
theorem dX7_soundingFret_48 : decode cX7_soundingFret 48 = .ok (.iload_n 3, 1) := by decide +kernel
theorem dX7_soundingFret_49 : decode cX7_soundingFret 49 = .ok (.if_icmp .le 8, 3) := by decide +kernel
theorem dX7_soundingFret_52 : decode cX7_soundingFret 52 = .ok (.iload 4, 2) := by decide +kernel
theorem dX7_soundingFret_54 : decode cX7_soundingFret 54 = .ok (.goto 4, 3) := by decide +kernel
theorem dX7_soundingFret_57 : decode cX7_soundingFret 57 = .ok (.iload_n 2, 1) := by decide +kernel
theorem dX7_soundingFret_58 : decode cX7_soundingFret 58 = .ok (.istore_n 2, 1) := by decide +kernel
theorem dX7_soundingFret_59 : decode cX7_soundingFret 59 = .ok (.iload 5, 2) := by decide +kernel
theorem dX7_soundingFret_61 : decode cX7_soundingFret 61 = .ok (.iload_n 3, 1) := by decide +kernel
theorem dX7_soundingFret_62 : decode cX7_soundingFret 62 = .ok (.if_icmp .le 8, 3) := by decide +kernel
theorem dX7_soundingFret_65 : decode cX7_soundingFret 65 = .ok (.iload 5, 2) := by decide +kernel
theorem dX7_soundingFret_67 : decode cX7_soundingFret 67 = .ok (.goto 4, 3) := by decide +kernel
theorem dX7_soundingFret_70 : decode cX7_soundingFret 70 = .ok (.iload_n 3, 1) := by decide +kernel
theorem dX7_soundingFret_71 : decode cX7_soundingFret 71 = .ok (.istore_n 3, 1) := by decide +kernel
theorem dX7_soundingFret_72 : decode cX7_soundingFret 72 = .ok (.iinc 4 1, 3) := by decide +kernel
theorem dX7_soundingFret_75 : decode cX7_soundingFret 75 = .ok (.goto (-66), 3) := by decide +kernel
theorem dX7_soundingFret_78 : decode cX7_soundingFret 78 = .ok (.iload_n 2, 1) := by decide +kernel
theorem dX7_soundingFret_79 : decode cX7_soundingFret 79 = .ok (.ireturn, 1) := by decide +kernel
set_option maxRecDepth 20000 in
theorem ggX7_sounds_X7_of : GoodIn wsX7_sounds wsX7_of := goodIn_r _ [5, 6, 22, 23, 24, 25, 26, 27, 28, 29, 30, 31, 32, 33, 34] (by decide +kernel) (by decide +kernel)
set_option maxRecDepth 20000 in
theorem gX7_sounds_X7_of : GoodIn wsX7_sounds (wsV RX7 48 RX7 yX7_of wsX7_of) := goodIn_app (goodIn_of _ (by decide +kernel)) ggX7_sounds_X7_of
set_option maxRecDepth 20000 in
theorem ggX7_sounds_X7_soundingFret : GoodIn wsX7_sounds wsX7_soundingFret := goodIn_r _ [10, 6, 11, 12, 13, 4, 14, 15, 16, 17, 18, 19, 20, 21, 22, 23, 24, 25, 26, 27, 28, 29, 30, 31, 32, 33, 34] (by decide +kernel) (by decide +kernel)
set_option maxRecDepth 20000 in
theorem gX7_sounds_X7_soundingFret : GoodIn wsX7_sounds (wsV RX7 51 RX7 yX7_soundingFret wsX7_soundingFret) := goodIn_app (goodIn_of _ (by decide +kernel)) ggX7_sounds_X7_soundingFret
theorem dX7_sounds_0 : decode cX7_sounds 0 = .ok (.aload_n 0, 1) := by decide +kernel
theorem dX7_sounds_1 : decode cX7_sounds 1 = .ok (.aload_n 0, 1) := by decide +kernel
theorem dX7_sounds_2 : decode cX7_sounds 2 = .ok (.iload_n 1, 1) := by decide +kernel
theorem dX7_sounds_3 : decode cX7_sounds 3 = .ok (.iconst 1, 1) := by decide +kernel
theorem dX7_sounds_4 : decode cX7_sounds 4 = .ok (.invokevirtual 48, 3) := by decide +kernel
theorem dX7_sounds_7 : decode cX7_sounds 7 = .ok (.invokevirtual 51, 3) := by decide +kernel
theorem dX7_sounds_10 : decode cX7_sounds 10 = .ok (.ireturn, 1) := by decide +kernel
set_option maxRecDepth 20000 in
theorem ggX7_buzzes_X7_sounds : GoodIn wsX7_buzzes wsX7_sounds := goodIn_r _ [5, 6, 7, 8, 4, 9, 10, 11, 12, 13, 14, 15, 16, 17, 18, 19, 20, 21, 22, 23, 24, 25, 26, 27, 28, 29, 30, 31, 32, 33, 34, 35, 36, 37, 38] (by decide +kernel) (by decide +kernel)
set_option maxRecDepth 20000 in
theorem gX7_buzzes_X7_sounds : GoodIn wsX7_buzzes (wsV RX7 55 RX7 yX7_sounds wsX7_sounds) := goodIn_app (goodIn_of _ (by decide +kernel)) ggX7_buzzes_X7_sounds
set_option maxRecDepth 20000 in
theorem ggX7_buzzes_X7_of : GoodIn wsX7_buzzes wsX7_of := goodIn_r _ [9, 10, 26, 27, 28, 29, 30, 31, 32, 33, 34, 35, 36, 37, 38] (by decide +kernel) (by decide +kernel)
set_option maxRecDepth 20000 in
theorem gX7_buzzes_X7_of : GoodIn wsX7_buzzes (wsV RX7 48 RX7 yX7_of wsX7_of) := goodIn_app (goodIn_of _ (by decide +kernel)) ggX7_buzzes_X7_of
theorem dX7_buzzes_0 : decode cX7_buzzes 0 = .ok (.aload_n 0, 1) := by decide +kernel
theorem dX7_buzzes_1 : decode cX7_buzzes 1 = .ok (.iload_n 1, 1) := by decide +kernel
theorem dX7_buzzes_2 : decode cX7_buzzes 2 = .ok (.invokevirtual 55, 3) := by decide +kernel
theorem dX7_buzzes_5 : decode cX7_buzzes 5 = .ok (.aload_n 0, 1) := by decide +kernel
theorem dX7_buzzes_6 : decode cX7_buzzes 6 = .ok (.iload_n 1, 1) := by decide +kernel
theorem dX7_buzzes_7 : decode cX7_buzzes 7 = .ok (.iconst 1, 1) := by decide +kernel
theorem dX7_buzzes_8 : decode cX7_buzzes 8 = .ok (.invokevirtual 48, 3) := by decide +kernel
theorem dX7_buzzes_11 : decode cX7_buzzes 11 = .ok (.if_icmp .eq 7, 3) := by decide +kernel
theorem dX7_buzzes_14 : decode cX7_buzzes 14 = .ok (.iconst 1, 1) := by decide +kernel
theorem dX7_buzzes_15 : decode cX7_buzzes 15 = .ok (.goto 4, 3) := by decide +kernel
theorem dX7_buzzes_18 : decode cX7_buzzes 18 = .ok (.iconst 0, 1) := by decide +kernel
theorem dX7_buzzes_19 : decode cX7_buzzes 19 = .ok (.ireturn, 1) := by decide +kernel
set_option maxRecDepth 20000 in
theorem ggX7_positionOf_X7_sounds : GoodIn wsX7_positionOf wsX7_sounds := goodIn_r _ [5, 6, 7, 8, 4, 9, 10, 11, 12, 13, 14, 15, 16, 17, 18, 19, 20, 21, 22, 23, 24, 25, 26, 27, 28, 29, 30, 31, 32, 33, 34, 35, 36, 37, 38] (by decide +kernel) (by decide +kernel)
set_option maxRecDepth 20000 in
theorem gX7_positionOf_X7_sounds : GoodIn wsX7_positionOf (wsV RX7 55 RX7 yX7_sounds wsX7_sounds) := goodIn_app (goodIn_of _ (by decide +kernel)) ggX7_positionOf_X7_sounds
set_option maxRecDepth 20000 in
theorem ggX7_positionOf_X7_on : GoodIn wsX7_positionOf wsX7_on := goodIn_r _ [18, 10, 26, 27, 28, 29, 30, 31, 32, 33, 34, 35, 36, 37, 38] (by decide +kernel) (by decide +kernel)
set_option maxRecDepth 20000 in
theorem gX7_positionOf_X7_on : GoodIn wsX7_positionOf (wsV RX7 38 RX7 yX7_on wsX7_on) := goodIn_app (goodIn_of _ (by decide +kernel)) ggX7_positionOf_X7_on
theorem dX7_positionOf_0 : decode cX7_positionOf 0 = .ok (.aload_n 0, 1) := by decide +kernel
theorem dX7_positionOf_1 : decode cX7_positionOf 1 = .ok (.iload_n 1, 1) := by decide +kernel
theorem dX7_positionOf_2 : decode cX7_positionOf 2 = .ok (.invokevirtual 55, 3) := by decide +kernel
theorem dX7_positionOf_5 : decode cX7_positionOf 5 = .ok (.istore_n 2, 1) := by decide +kernel
theorem dX7_positionOf_6 : decode cX7_positionOf 6 = .ok (.iload_n 2, 1) := by decide +kernel
theorem dX7_positionOf_7 : decode cX7_positionOf 7 = .ok (.ifCond .ne 7, 3) := by decide +kernel
theorem dX7_positionOf_10 : decode cX7_positionOf 10 = .ok (.iconst 0, 1) := by decide +kernel
theorem dX7_positionOf_11 : decode cX7_positionOf 11 = .ok (.goto 9, 3) := by decide +kernel
theorem dX7_positionOf_14 : decode cX7_positionOf 14 = .ok (.aload_n 0, 1) := by decide +kernel
theorem dX7_positionOf_15 : decode cX7_positionOf 15 = .ok (.iload_n 2, 1) := by decide +kernel
theorem dX7_positionOf_16 : decode cX7_positionOf 16 = .ok (.iconst 0, 1) := by decide +kernel
theorem dX7_positionOf_17 : decode cX7_positionOf 17 = .ok (.invokevirtual 38, 3) := by decide +kernel
theorem dX7_positionOf_20 : decode cX7_positionOf 20 = .ok (.ireturn, 1) := by decide +kernel
set_option maxRecDepth 20000 in
theorem ggX7_lengthOf_X7_positionOf : GoodIn wsX7_lengthOf wsX7_positionOf := goodIn_r _ [5, 6, 7, 8, 4, 9, 10, 11, 12, 13, 14, 15, 16, 17, 18, 19, 20, 21, 22, 23, 24, 25, 26, 27, 28, 29, 30, 31, 32, 33, 34, 35, 36, 37, 38, 39, 40, 41, 42] (by decide +kernel) (by decide +kernel)
set_option maxRecDepth 20000 in
theorem gX7_lengthOf_X7_positionOf : GoodIn wsX7_lengthOf (wsV RX7 58 RX7 yX7_positionOf wsX7_positionOf) := goodIn_app (goodIn_of _ (by decide +kernel)) ggX7_lengthOf_X7_positionOf
theorem dX7_lengthOf_0 : decode cX7_lengthOf 0 = .ok (.sipush 2520, 3) := by decide +kernel
theorem dX7_lengthOf_3 : decode cX7_lengthOf 3 = .ok (.aload_n 0, 1) := by decide +kernel
theorem dX7_lengthOf_4 : decode cX7_lengthOf 4 = .ok (.iload_n 1, 1) := by decide +kernel
theorem dX7_lengthOf_5 : decode cX7_lengthOf 5 = .ok (.invokevirtual 58, 3) := by decide +kernel
theorem dX7_lengthOf_8 : decode cX7_lengthOf 8 = .ok (.isub, 1) := by decide +kernel
theorem dX7_lengthOf_9 : decode cX7_lengthOf 9 = .ok (.ireturn, 1) := by decide +kernel
set_option maxRecDepth 20000 in
theorem ggX7_stands_X7_positionOf : GoodIn wsX7_stands wsX7_positionOf := goodIn_r _ [6, 7, 8, 9, 5, 10, 11, 12, 13, 14, 15, 16, 17, 18, 19, 20, 21, 22, 23, 24, 25, 26, 27, 28, 29, 30, 31, 32, 33, 34, 35, 36, 37, 38, 39, 40, 41, 42, 43] (by decide +kernel) (by decide +kernel)
set_option maxRecDepth 20000 in
theorem gX7_stands_X7_positionOf : GoodIn wsX7_stands (wsV RX7 58 RX7 yX7_positionOf wsX7_positionOf) := goodIn_app (goodIn_of _ (by decide +kernel)) ggX7_stands_X7_positionOf
theorem dX7_stands_0 : decode cX7_stands 0 = .ok (.iconst 0, 1) := by decide +kernel
theorem dX7_stands_1 : decode cX7_stands 1 = .ok (.istore_n 1, 1) := by decide +kernel
theorem dX7_stands_2 : decode cX7_stands 2 = .ok (.iload_n 1, 1) := by decide +kernel
theorem dX7_stands_3 : decode cX7_stands 3 = .ok (.iconst 4, 1) := by decide +kernel
theorem dX7_stands_4 : decode cX7_stands 4 = .ok (.if_icmp .ge 20, 3) := by decide +kernel
theorem dX7_stands_7 : decode cX7_stands 7 = .ok (.aload_n 0, 1) := by decide +kernel
theorem dX7_stands_8 : decode cX7_stands 8 = .ok (.getfield 19, 3) := by decide +kernel
theorem dX7_stands_11 : decode cX7_stands 11 = .ok (.iload_n 1, 1) := by decide +kernel
theorem dX7_stands_12 : decode cX7_stands 12 = .ok (.aload_n 0, 1) := by decide +kernel
theorem dX7_stands_13 : decode cX7_stands 13 = .ok (.iload_n 1, 1) := by decide +kernel
theorem dX7_stands_14 : decode cX7_stands 14 = .ok (.invokevirtual 58, 3) := by decide +kernel
theorem dX7_stands_17 : decode cX7_stands 17 = .ok (.iastore, 1) := by decide +kernel
theorem dX7_stands_18 : decode cX7_stands 18 = .ok (.iinc 1 1, 3) := by decide +kernel
theorem dX7_stands_21 : decode cX7_stands 21 = .ok (.goto (-19), 3) := by decide +kernel
theorem dX7_stands_24 : decode cX7_stands 24 = .ok (.return_, 1) := by decide +kernel
theorem dX7_rests_0 : decode cX7_rests 0 = .ok (.iconst 1, 1) := by decide +kernel
theorem dX7_rests_1 : decode cX7_rests 1 = .ok (.istore_n 2, 1) := by decide +kernel
theorem dX7_rests_2 : decode cX7_rests 2 = .ok (.iload_n 2, 1) := by decide +kernel
theorem dX7_rests_3 : decode cX7_rests 3 = .ok (.bipush 12, 2) := by decide +kernel
theorem dX7_rests_5 : decode cX7_rests 5 = .ok (.if_icmp .gt 26, 3) := by decide +kernel
theorem dX7_rests_8 : decode cX7_rests 8 = .ok (.aload_n 0, 1) := by decide +kernel
theorem dX7_rests_9 : decode cX7_rests 9 = .ok (.getfield 7, 3) := by decide +kernel
theorem dX7_rests_12 : decode cX7_rests 12 = .ok (.bipush 61, 2) := by decide +kernel
theorem dX7_rests_14 : decode cX7_rests 14 = .ok (.bipush 12, 2) := by decide +kernel
theorem dX7_rests_16 : decode cX7_rests 16 = .ok (.iload_n 1, 1) := by decide +kernel
theorem dX7_rests_17 : decode cX7_rests 17 = .ok (.imul, 1) := by decide +kernel
theorem dX7_rests_18 : decode cX7_rests 18 = .ok (.iadd, 1) := by decide +kernel
theorem dX7_rests_19 : decode cX7_rests 19 = .ok (.iload_n 2, 1) := by decide +kernel
theorem dX7_rests_20 : decode cX7_rests 20 = .ok (.iadd, 1) := by decide +kernel
theorem dX7_rests_21 : decode cX7_rests 21 = .ok (.iconst 1, 1) := by decide +kernel
theorem dX7_rests_22 : decode cX7_rests 22 = .ok (.isub, 1) := by decide +kernel
theorem dX7_rests_23 : decode cX7_rests 23 = .ok (.iconst 0, 1) := by decide +kernel
theorem dX7_rests_24 : decode cX7_rests 24 = .ok (.iastore, 1) := by decide +kernel
theorem dX7_rests_25 : decode cX7_rests 25 = .ok (.iinc 2 1, 3) := by decide +kernel
theorem dX7_rests_28 : decode cX7_rests 28 = .ok (.goto (-26), 3) := by decide +kernel
theorem dX7_rests_31 : decode cX7_rests 31 = .ok (.return_, 1) := by decide +kernel
set_option maxRecDepth 20000 in
theorem ggX7_moved_X7_positionOf : GoodIn wsX7_moved wsX7_positionOf := goodIn_r _ [6, 7, 8, 9, 5, 10, 11, 12, 13, 14, 15, 16, 17, 18, 19, 20, 21, 22, 23, 24, 25, 26, 27, 28, 29, 30, 35, 36, 37, 38, 39, 40, 41, 42, 43, 44, 45, 46, 47] (by decide +kernel) (by decide +kernel)
set_option maxRecDepth 20000 in
theorem gX7_moved_X7_positionOf : GoodIn wsX7_moved (wsV RX7 58 RX7 yX7_positionOf wsX7_positionOf) := goodIn_app (goodIn_of _ (by decide +kernel)) ggX7_moved_X7_positionOf
set_option maxRecDepth 20000 in
theorem ggX7_moved_X7_rests : GoodIn wsX7_moved wsX7_rests := goodIn_r _ [34, 15, 35, 36, 37, 38, 39, 40, 41, 42, 43, 44, 45, 46, 47] (by decide +kernel) (by decide +kernel)
set_option maxRecDepth 20000 in
theorem gX7_moved_X7_rests : GoodIn wsX7_moved (wsV RX7 61 RX7 yX7_rests wsX7_rests) := goodIn_app (goodIn_of _ (by decide +kernel)) ggX7_moved_X7_rests
theorem dX7_moved_0 : decode cX7_moved 0 = .ok (.iconst 0, 1) := by decide +kernel
theorem dX7_moved_1 : decode cX7_moved 1 = .ok (.istore_n 1, 1) := by decide +kernel
theorem dX7_moved_2 : decode cX7_moved 2 = .ok (.iload_n 1, 1) := by decide +kernel
theorem dX7_moved_3 : decode cX7_moved 3 = .ok (.iconst 4, 1) := by decide +kernel
theorem dX7_moved_4 : decode cX7_moved 4 = .ok (.if_icmp .ge 28, 3) := by decide +kernel
theorem dX7_moved_7 : decode cX7_moved 7 = .ok (.aload_n 0, 1) := by decide +kernel
theorem dX7_moved_8 : decode cX7_moved 8 = .ok (.iload_n 1, 1) := by decide +kernel
theorem dX7_moved_9 : decode cX7_moved 9 = .ok (.invokevirtual 58, 3) := by decide +kernel
theorem dX7_moved_12 : decode cX7_moved 12 = .ok (.aload_n 0, 1) := by decide +kernel
theorem dX7_moved_13 : decode cX7_moved 13 = .ok (.getfield 19, 3) := by decide +kernel
theorem dX7_moved_16 : decode cX7_moved 16 = .ok (.iload_n 1, 1) := by decide +kernel
theorem dX7_moved_17 : decode cX7_moved 17 = .ok (.iaload, 1) := by decide +kernel
theorem dX7_moved_18 : decode cX7_moved 18 = .ok (.if_icmp .eq 8, 3) := by decide +kernel
theorem dX7_moved_21 : decode cX7_moved 21 = .ok (.aload_n 0, 1) := by decide +kernel
theorem dX7_moved_22 : decode cX7_moved 22 = .ok (.iload_n 1, 1) := by decide +kernel
theorem dX7_moved_23 : decode cX7_moved 23 = .ok (.invokevirtual 61, 3) := by decide +kernel
theorem dX7_moved_26 : decode cX7_moved 26 = .ok (.iinc 1 1, 3) := by decide +kernel
theorem dX7_moved_29 : decode cX7_moved 29 = .ok (.goto (-27), 3) := by decide +kernel
theorem dX7_moved_32 : decode cX7_moved 32 = .ok (.return_, 1) := by decide +kernel
set_option maxRecDepth 20000 in
theorem ggX7_isThere_X7_on : GoodIn wsX7_isThere wsX7_on := goodIn_r _ [6, 1, 7, 8, 9, 10, 11, 12, 13, 14, 15, 16, 17, 18, 19] (by decide +kernel) (by decide +kernel)
set_option maxRecDepth 20000 in
theorem gX7_isThere_X7_on : GoodIn wsX7_isThere (wsV RX7 38 RX7 yX7_on wsX7_on) := goodIn_app (goodIn_of _ (by decide +kernel)) ggX7_isThere_X7_on
theorem dX7_isThere_0 : decode cX7_isThere 0 = .ok (.iconst 0, 1) := by decide +kernel
theorem dX7_isThere_1 : decode cX7_isThere 1 = .ok (.istore_n 2, 1) := by decide +kernel
theorem dX7_isThere_2 : decode cX7_isThere 2 = .ok (.iconst 1, 1) := by decide +kernel
theorem dX7_isThere_3 : decode cX7_isThere 3 = .ok (.istore_n 3, 1) := by decide +kernel
theorem dX7_isThere_4 : decode cX7_isThere 4 = .ok (.iload_n 3, 1) := by decide +kernel
theorem dX7_isThere_5 : decode cX7_isThere 5 = .ok (.aload_n 0, 1) := by decide +kernel
theorem dX7_isThere_6 : decode cX7_isThere 6 = .ok (.getfield 7, 3) := by decide +kernel
theorem dX7_isThere_9 : decode cX7_isThere 9 = .ok (.iconst 0, 1) := by decide +kernel
theorem dX7_isThere_10 : decode cX7_isThere 10 = .ok (.iaload, 1) := by decide +kernel
theorem dX7_isThere_11 : decode cX7_isThere 11 = .ok (.if_icmp .gt 29, 3) := by decide +kernel
theorem dX7_isThere_14 : decode cX7_isThere 14 = .ok (.iload_n 2, 1) := by decide +kernel
theorem dX7_isThere_15 : decode cX7_isThere 15 = .ok (.ifCond .ne 13, 3) := by decide +kernel
theorem dX7_isThere_18 : decode cX7_isThere 18 = .ok (.aload_n 0, 1) := by decide +kernel
theorem dX7_isThere_19 : decode cX7_isThere 19 = .ok (.iload_n 3, 1) := by decide +kernel
theorem dX7_isThere_20 : decode cX7_isThere 20 = .ok (.iconst 0, 1) := by decide +kernel
theorem dX7_isThere_21 : decode cX7_isThere 21 = .ok (.invokevirtual 38, 3) := by decide +kernel
theorem dX7_isThere_24 : decode cX7_isThere 24 = .ok (.iload_n 1, 1) := by decide +kernel
theorem dX7_isThere_25 : decode cX7_isThere 25 = .ok (.if_icmp .ne 7, 3) := by decide +kernel
theorem dX7_isThere_28 : decode cX7_isThere 28 = .ok (.iconst 1, 1) := by decide +kernel
theorem dX7_isThere_29 : decode cX7_isThere 29 = .ok (.goto 4, 3) := by decide +kernel
theorem dX7_isThere_32 : decode cX7_isThere 32 = .ok (.iconst 0, 1) := by decide +kernel
theorem dX7_isThere_33 : decode cX7_isThere 33 = .ok (.istore_n 2, 1) := by decide +kernel
theorem dX7_isThere_34 : decode cX7_isThere 34 = .ok (.iinc 3 1, 3) := by decide +kernel
theorem dX7_isThere_37 : decode cX7_isThere 37 = .ok (.goto (-33), 3) := by decide +kernel
theorem dX7_isThere_40 : decode cX7_isThere 40 = .ok (.iload_n 2, 1) := by decide +kernel
theorem dX7_isThere_41 : decode cX7_isThere 41 = .ok (.ireturn, 1) := by decide +kernel
set_option maxRecDepth 20000 in
theorem ggX7_fret_X7_in : GoodIn wsX7_fret wsX7_in := goodIn_r _ [5] (by decide +kernel) (by decide +kernel)
set_option maxRecDepth 20000 in
theorem gX7_fret_X7_in : GoodIn wsX7_fret (va_wsS RX7 30 yX7_in wsX7_in) := goodIn_app (goodIn_of _ (by decide +kernel)) ggX7_fret_X7_in
set_option maxRecDepth 20000 in
theorem ggX7_fret_X7_isThere : GoodIn wsX7_fret wsX7_isThere := goodIn_r _ [9, 1, 10, 11, 12, 4, 13, 64, 65, 66, 67, 68, 69, 70, 71, 72, 73, 74, 75, 76] (by decide +kernel) (by decide +kernel)
set_option maxRecDepth 20000 in
theorem gX7_fret_X7_isThere : GoodIn wsX7_fret (wsV RX7 65 RX7 yX7_isThere wsX7_isThere) := goodIn_app (goodIn_of _ (by decide +kernel)) ggX7_fret_X7_isThere
set_option maxRecDepth 20000 in
theorem ggX7_fret_X7_records : GoodIn wsX7_fret wsX7_records := goodIn_r _ [17, 18, 19, 1, 64, 65, 66, 67, 68, 69, 70, 71, 72, 73, 74, 75, 76] (by decide +kernel) (by decide +kernel)
set_option maxRecDepth 20000 in
theorem gX7_fret_X7_records : GoodIn wsX7_fret (wsV RX7 69 RX7 yX7_records wsX7_records) := goodIn_app (goodIn_of _ (by decide +kernel)) ggX7_fret_X7_records
set_option maxRecDepth 20000 in
theorem ggX7_fret_X7_stands : GoodIn wsX7_fret wsX7_stands := goodIn_r _ [23, 24, 25, 26, 27, 4, 28, 29, 30, 31, 32, 33, 34, 35, 36, 1, 37, 38, 39, 40, 10, 11, 12, 13, 41, 42, 43, 44, 45, 46, 47, 64, 65, 66, 67, 68, 69, 70, 71, 72, 73, 74, 75, 76] (by decide +kernel) (by decide +kernel)
set_option maxRecDepth 20000 in
theorem gX7_fret_X7_stands : GoodIn wsX7_fret (wsV RX7 72 RX7 yX7_stands wsX7_stands) := goodIn_app (goodIn_of _ (by decide +kernel)) ggX7_fret_X7_stands
set_option maxRecDepth 20000 in
theorem ggX7_fret_X7_on : GoodIn wsX7_fret wsX7_on := goodIn_r _ [13, 1, 64, 65, 66, 67, 68, 69, 70, 71, 72, 73, 74, 75, 76] (by decide +kernel) (by decide +kernel)
set_option maxRecDepth 20000 in
theorem gX7_fret_X7_on : GoodIn wsX7_fret (wsV RX7 38 RX7 yX7_on wsX7_on) := goodIn_app (goodIn_of _ (by decide +kernel)) ggX7_fret_X7_on
set_option maxRecDepth 20000 in
theorem ggX7_fret_X7_lays : GoodIn wsX7_fret wsX7_lays := goodIn_r _ [51, 1, 64, 65, 66, 67, 68, 69, 70, 71, 72, 73, 74, 75, 76] (by decide +kernel) (by decide +kernel)
set_option maxRecDepth 20000 in
theorem gX7_fret_X7_lays : GoodIn wsX7_fret (wsV RX7 75 RX7 yX7_lays wsX7_lays) := goodIn_app (goodIn_of _ (by decide +kernel)) ggX7_fret_X7_lays
set_option maxRecDepth 20000 in
theorem ggX7_fret_X7_of : GoodIn wsX7_fret wsX7_of := goodIn_r _ [36, 1, 64, 65, 66, 67, 68, 69, 70, 71, 72, 73, 74, 75, 76] (by decide +kernel) (by decide +kernel)
set_option maxRecDepth 20000 in
theorem gX7_fret_X7_of : GoodIn wsX7_fret (wsV RX7 48 RX7 yX7_of wsX7_of) := goodIn_app (goodIn_of _ (by decide +kernel)) ggX7_fret_X7_of
set_option maxRecDepth 20000 in
theorem ggX7_fret_X7_puts : GoodIn wsX7_fret wsX7_puts := goodIn_r _ [55, 1, 64, 65, 66, 67, 68, 69, 70, 71, 72, 73, 74, 75, 76] (by decide +kernel) (by decide +kernel)
set_option maxRecDepth 20000 in
theorem gX7_fret_X7_puts : GoodIn wsX7_fret (wsV RX7 23 RX7 yX7_puts wsX7_puts) := goodIn_app (goodIn_of _ (by decide +kernel)) ggX7_fret_X7_puts
set_option maxRecDepth 20000 in
theorem ggX7_fret_X7_moved : GoodIn wsX7_fret wsX7_moved := goodIn_r _ [59, 24, 25, 26, 27, 4, 28, 29, 30, 31, 32, 33, 34, 35, 36, 1, 37, 38, 39, 40, 10, 11, 12, 13, 41, 42, 43, 44, 45, 46, 47, 60, 61, 62, 63, 64, 65, 66, 67, 68, 69, 70, 71, 72, 73, 74, 75, 76] (by decide +kernel) (by decide +kernel)
set_option maxRecDepth 20000 in
theorem gX7_fret_X7_moved : GoodIn wsX7_fret (wsV RX7 78 RX7 yX7_moved wsX7_moved) := goodIn_app (goodIn_of _ (by decide +kernel)) ggX7_fret_X7_moved
theorem dX7_fret_0 : decode cX7_fret 0 = .ok (.iload_n 1, 1) := by decide +kernel
theorem dX7_fret_1 : decode cX7_fret 1 = .ok (.iconst 1, 1) := by decide +kernel
theorem dX7_fret_2 : decode cX7_fret 2 = .ok (.sipush 2400, 3) := by decide +kernel
theorem dX7_fret_5 : decode cX7_fret 5 = .ok (.invokestatic 30, 3) := by decide +kernel
theorem dX7_fret_8 : decode cX7_fret 8 = .ok (.ifCond .eq 14, 3) := by decide +kernel
theorem dX7_fret_11 : decode cX7_fret 11 = .ok (.iload_n 2, 1) := by decide +kernel
theorem dX7_fret_12 : decode cX7_fret 12 = .ok (.iconst 0, 1) := by decide +kernel
theorem dX7_fret_13 : decode cX7_fret 13 = .ok (.sipush 2000, 3) := by decide +kernel
theorem dX7_fret_16 : decode cX7_fret 16 = .ok (.invokestatic 30, 3) := by decide +kernel
theorem dX7_fret_19 : decode cX7_fret 19 = .ok (.ifCond .ne 5, 3) := by decide +kernel
theorem dX7_fret_22 : decode cX7_fret 22 = .ok (.iconst (-1), 1) := by decide +kernel
theorem dX7_fret_23 : decode cX7_fret 23 = .ok (.ireturn, 1) := by decide +kernel
theorem dX7_fret_24 : decode cX7_fret 24 = .ok (.aload_n 0, 1) := by decide +kernel
theorem dX7_fret_25 : decode cX7_fret 25 = .ok (.iload_n 1, 1) := by decide +kernel
theorem dX7_fret_26 : decode cX7_fret 26 = .ok (.invokevirtual 65, 3) := by decide +kernel
theorem dX7_fret_29 : decode cX7_fret 29 = .ok (.ifCond .eq 6, 3) := by decide +kernel
theorem dX7_fret_32 : decode cX7_fret 32 = .ok (.bipush (-2), 2) := by decide +kernel
theorem dX7_fret_34 : decode cX7_fret 34 = .ok (.ireturn, 1) := by decide +kernel
theorem dX7_fret_35 : decode cX7_fret 35 = .ok (.aload_n 0, 1) := by decide +kernel
theorem dX7_fret_36 : decode cX7_fret 36 = .ok (.getfield 7, 3) := by decide +kernel
theorem dX7_fret_39 : decode cX7_fret 39 = .ok (.iconst 0, 1) := by decide +kernel
theorem dX7_fret_40 : decode cX7_fret 40 = .ok (.iaload, 1) := by decide +kernel
theorem dX7_fret_41 : decode cX7_fret 41 = .ok (.bipush 12, 2) := by decide +kernel
theorem dX7_fret_43 : decode cX7_fret 43 = .ok (.if_icmp .ne 6, 3) := by decide +kernel
theorem dX7_fret_46 : decode cX7_fret 46 = .ok (.bipush (-3), 2) := by decide +kernel
theorem dX7_fret_48 : decode cX7_fret 48 = .ok (.ireturn, 1) := by decide +kernel
theorem dX7_fret_49 : decode cX7_fret 49 = .ok (.aload_n 0, 1) := by decide +kernel
theorem dX7_fret_50 : decode cX7_fret 50 = .ok (.invokevirtual 69, 3) := by decide +kernel
theorem dX7_fret_53 : decode cX7_fret 53 = .ok (.aload_n 0, 1) := by decide +kernel
theorem dX7_fret_54 : decode cX7_fret 54 = .ok (.invokevirtual 72, 3) := by decide +kernel
theorem dX7_fret_57 : decode cX7_fret 57 = .ok (.aload_n 0, 1) := by decide +kernel
theorem dX7_fret_58 : decode cX7_fret 58 = .ok (.getfield 7, 3) := by decide +kernel
theorem dX7_fret_61 : decode cX7_fret 61 = .ok (.iconst 0, 1) := by decide +kernel
theorem dX7_fret_62 : decode cX7_fret 62 = .ok (.dup2, 1) := by decide +kernel
theorem dX7_fret_63 : decode cX7_fret 63 = .ok (.iaload, 1) := by decide +kernel
theorem dX7_fret_64 : decode cX7_fret 64 = .ok (.iconst 1, 1) := by decide +kernel
theorem dX7_fret_65 : decode cX7_fret 65 = .ok (.iadd, 1) := by decide +kernel
theorem dX7_fret_66 : decode cX7_fret 66 = .ok (.iastore, 1) := by decide +kernel
theorem dX7_fret_67 : decode cX7_fret 67 = .ok (.aload_n 0, 1) := by decide +kernel
theorem dX7_fret_68 : decode cX7_fret 68 = .ok (.getfield 7, 3) := by decide +kernel
theorem dX7_fret_71 : decode cX7_fret 71 = .ok (.iconst 0, 1) := by decide +kernel
theorem dX7_fret_72 : decode cX7_fret 72 = .ok (.iaload, 1) := by decide +kernel
theorem dX7_fret_73 : decode cX7_fret 73 = .ok (.istore_n 3, 1) := by decide +kernel
theorem dX7_fret_74 : decode cX7_fret 74 = .ok (.iload_n 3, 1) := by decide +kernel
theorem dX7_fret_75 : decode cX7_fret 75 = .ok (.iconst 1, 1) := by decide +kernel
theorem dX7_fret_76 : decode cX7_fret 76 = .ok (.if_icmp .le 52, 3) := by decide +kernel
theorem dX7_fret_79 : decode cX7_fret 79 = .ok (.aload_n 0, 1) := by decide +kernel
theorem dX7_fret_80 : decode cX7_fret 80 = .ok (.iload_n 3, 1) := by decide +kernel
theorem dX7_fret_81 : decode cX7_fret 81 = .ok (.iconst 1, 1) := by decide +kernel
theorem dX7_fret_82 : decode cX7_fret 82 = .ok (.isub, 1) := by decide +kernel
theorem dX7_fret_83 : decode cX7_fret 83 = .ok (.iconst 0, 1) := by decide +kernel
theorem dX7_fret_84 : decode cX7_fret 84 = .ok (.invokevirtual 38, 3) := by decide +kernel
theorem dX7_fret_87 : decode cX7_fret 87 = .ok (.iload_n 1, 1) := by decide +kernel
theorem dX7_fret_88 : decode cX7_fret 88 = .ok (.if_icmp .le 40, 3) := by decide +kernel
theorem dX7_fret_91 : decode cX7_fret 91 = .ok (.iconst 0, 1) := by decide +kernel
theorem dX7_fret_92 : decode cX7_fret 92 = .ok (.istore 4, 2) := by decide +kernel
theorem dX7_fret_94 : decode cX7_fret 94 = .ok (.iload 4, 2) := by decide +kernel
theorem dX7_fret_96 : decode cX7_fret 96 = .ok (.iconst 3, 1) := by decide +kernel
theorem dX7_fret_97 : decode cX7_fret 97 = .ok (.if_icmp .ge 25, 3) := by decide +kernel
theorem dX7_fret_100 : decode cX7_fret 100 = .ok (.aload_n 0, 1) := by decide +kernel
theorem dX7_fret_101 : decode cX7_fret 101 = .ok (.iload_n 3, 1) := by decide +kernel
theorem dX7_fret_102 : decode cX7_fret 102 = .ok (.iload 4, 2) := by decide +kernel
theorem dX7_fret_104 : decode cX7_fret 104 = .ok (.aload_n 0, 1) := by decide +kernel
theorem dX7_fret_105 : decode cX7_fret 105 = .ok (.iload_n 3, 1) := by decide +kernel
theorem dX7_fret_106 : decode cX7_fret 106 = .ok (.iconst 1, 1) := by decide +kernel
theorem dX7_fret_107 : decode cX7_fret 107 = .ok (.isub, 1) := by decide +kernel
theorem dX7_fret_108 : decode cX7_fret 108 = .ok (.iload 4, 2) := by decide +kernel
theorem dX7_fret_110 : decode cX7_fret 110 = .ok (.invokevirtual 38, 3) := by decide +kernel
theorem dX7_fret_113 : decode cX7_fret 113 = .ok (.invokevirtual 75, 3) := by decide +kernel
theorem dX7_fret_116 : decode cX7_fret 116 = .ok (.iinc 4 1, 3) := by decide +kernel
theorem dX7_fret_119 : decode cX7_fret 119 = .ok (.goto (-25), 3) := by decide +kernel
theorem dX7_fret_122 : decode cX7_fret 122 = .ok (.iinc 3 (-1), 3) := by decide +kernel
theorem dX7_fret_125 : decode cX7_fret 125 = .ok (.goto (-51), 3) := by decide +kernel
theorem dX7_fret_128 : decode cX7_fret 128 = .ok (.aload_n 0, 1) := by decide +kernel
theorem dX7_fret_129 : decode cX7_fret 129 = .ok (.iload_n 3, 1) := by decide +kernel
theorem dX7_fret_130 : decode cX7_fret 130 = .ok (.iconst 0, 1) := by decide +kernel
theorem dX7_fret_131 : decode cX7_fret 131 = .ok (.iload_n 1, 1) := by decide +kernel
theorem dX7_fret_132 : decode cX7_fret 132 = .ok (.invokevirtual 75, 3) := by decide +kernel
theorem dX7_fret_135 : decode cX7_fret 135 = .ok (.aload_n 0, 1) := by decide +kernel
theorem dX7_fret_136 : decode cX7_fret 136 = .ok (.iload_n 3, 1) := by decide +kernel
theorem dX7_fret_137 : decode cX7_fret 137 = .ok (.iconst 1, 1) := by decide +kernel
theorem dX7_fret_138 : decode cX7_fret 138 = .ok (.iload_n 2, 1) := by decide +kernel
theorem dX7_fret_139 : decode cX7_fret 139 = .ok (.invokevirtual 75, 3) := by decide +kernel
theorem dX7_fret_142 : decode cX7_fret 142 = .ok (.aload_n 0, 1) := by decide +kernel
theorem dX7_fret_143 : decode cX7_fret 143 = .ok (.iload_n 3, 1) := by decide +kernel
theorem dX7_fret_144 : decode cX7_fret 144 = .ok (.iconst 2, 1) := by decide +kernel
theorem dX7_fret_145 : decode cX7_fret 145 = .ok (.iconst 0, 1) := by decide +kernel
theorem dX7_fret_146 : decode cX7_fret 146 = .ok (.invokevirtual 75, 3) := by decide +kernel
theorem dX7_fret_149 : decode cX7_fret 149 = .ok (.iconst 0, 1) := by decide +kernel
theorem dX7_fret_150 : decode cX7_fret 150 = .ok (.istore 4, 2) := by decide +kernel
theorem dX7_fret_152 : decode cX7_fret 152 = .ok (.iload 4, 2) := by decide +kernel
theorem dX7_fret_154 : decode cX7_fret 154 = .ok (.iconst 4, 1) := by decide +kernel
theorem dX7_fret_155 : decode cX7_fret 155 = .ok (.if_icmp .ge 40, 3) := by decide +kernel
theorem dX7_fret_158 : decode cX7_fret 158 = .ok (.aload_n 0, 1) := by decide +kernel
theorem dX7_fret_159 : decode cX7_fret 159 = .ok (.iload 4, 2) := by decide +kernel
theorem dX7_fret_161 : decode cX7_fret 161 = .ok (.iconst 1, 1) := by decide +kernel
theorem dX7_fret_162 : decode cX7_fret 162 = .ok (.aload_n 0, 1) := by decide +kernel
theorem dX7_fret_163 : decode cX7_fret 163 = .ok (.iload 4, 2) := by decide +kernel
theorem dX7_fret_165 : decode cX7_fret 165 = .ok (.iconst 1, 1) := by decide +kernel
theorem dX7_fret_166 : decode cX7_fret 166 = .ok (.invokevirtual 48, 3) := by decide +kernel
theorem dX7_fret_169 : decode cX7_fret 169 = .ok (.aload_n 0, 1) := by decide +kernel
theorem dX7_fret_170 : decode cX7_fret 170 = .ok (.iload 4, 2) := by decide +kernel
theorem dX7_fret_172 : decode cX7_fret 172 = .ok (.iconst 1, 1) := by decide +kernel
theorem dX7_fret_173 : decode cX7_fret 173 = .ok (.invokevirtual 48, 3) := by decide +kernel
theorem dX7_fret_176 : decode cX7_fret 176 = .ok (.iload_n 3, 1) := by decide +kernel
theorem dX7_fret_177 : decode cX7_fret 177 = .ok (.if_icmp .lt 7, 3) := by decide +kernel
theorem dX7_fret_180 : decode cX7_fret 180 = .ok (.iconst 1, 1) := by decide +kernel
theorem dX7_fret_181 : decode cX7_fret 181 = .ok (.goto 4, 3) := by decide +kernel
theorem dX7_fret_184 : decode cX7_fret 184 = .ok (.iconst 0, 1) := by decide +kernel
theorem dX7_fret_185 : decode cX7_fret 185 = .ok (.iadd, 1) := by decide +kernel
theorem dX7_fret_186 : decode cX7_fret 186 = .ok (.invokevirtual 23, 3) := by decide +kernel
theorem dX7_fret_189 : decode cX7_fret 189 = .ok (.iinc 4 1, 3) := by decide +kernel
theorem dX7_fret_192 : decode cX7_fret 192 = .ok (.goto (-40), 3) := by decide +kernel
theorem dX7_fret_195 : decode cX7_fret 195 = .ok (.aload_n 0, 1) := by decide +kernel
theorem dX7_fret_196 : decode cX7_fret 196 = .ok (.invokevirtual 78, 3) := by decide +kernel
theorem dX7_fret_199 : decode cX7_fret 199 = .ok (.iload_n 3, 1) := by decide +kernel
theorem dX7_fret_200 : decode cX7_fret 200 = .ok (.ireturn, 1) := by decide +kernel
set_option maxRecDepth 20000 in
theorem ggX7_level_X7_isFret : GoodIn wsX7_level wsX7_isFret := goodIn_r _ [5, 6, 7, 8, 4, 9, 60, 61, 62, 63, 64, 65, 66, 67, 68, 69, 70, 71, 72] (by decide +kernel) (by decide +kernel)
set_option maxRecDepth 20000 in
theorem gX7_level_X7_isFret : GoodIn wsX7_level (wsV RX7 81 RX7 yX7_isFret wsX7_isFret) := goodIn_app (goodIn_of _ (by decide +kernel)) ggX7_level_X7_isFret
set_option maxRecDepth 20000 in
theorem ggX7_level_X7_in : GoodIn wsX7_level wsX7_in := goodIn_r _ [9] (by decide +kernel) (by decide +kernel)
set_option maxRecDepth 20000 in
theorem gX7_level_X7_in : GoodIn wsX7_level (va_wsS RX7 30 yX7_in wsX7_in) := goodIn_app (goodIn_of _ (by decide +kernel)) ggX7_level_X7_in
set_option maxRecDepth 20000 in
theorem ggX7_level_X7_on : GoodIn wsX7_level wsX7_on := goodIn_r _ [13, 6, 60, 61, 62, 63, 64, 65, 66, 67, 68, 69, 70, 71, 72] (by decide +kernel) (by decide +kernel)
set_option maxRecDepth 20000 in
theorem gX7_level_X7_on : GoodIn wsX7_level (wsV RX7 38 RX7 yX7_on wsX7_on) := goodIn_app (goodIn_of _ (by decide +kernel)) ggX7_level_X7_on
set_option maxRecDepth 20000 in
theorem ggX7_level_X7_records : GoodIn wsX7_level wsX7_records := goodIn_r _ [17, 18, 19, 6, 60, 61, 62, 63, 64, 65, 66, 67, 68, 69, 70, 71, 72] (by decide +kernel) (by decide +kernel)
set_option maxRecDepth 20000 in
theorem gX7_level_X7_records : GoodIn wsX7_level (wsV RX7 69 RX7 yX7_records wsX7_records) := goodIn_app (goodIn_of _ (by decide +kernel)) ggX7_level_X7_records
set_option maxRecDepth 20000 in
theorem ggX7_level_X7_stands : GoodIn wsX7_level wsX7_stands := goodIn_r _ [23, 24, 25, 26, 27, 4, 28, 29, 30, 31, 32, 33, 34, 35, 36, 6, 37, 38, 39, 40, 10, 11, 12, 13, 41, 42, 43, 44, 45, 46, 47, 60, 61, 62, 63, 64, 65, 66, 67, 68, 69, 70, 71, 72] (by decide +kernel) (by decide +kernel)
set_option maxRecDepth 20000 in
theorem gX7_level_X7_stands : GoodIn wsX7_level (wsV RX7 72 RX7 yX7_stands wsX7_stands) := goodIn_app (goodIn_of _ (by decide +kernel)) ggX7_level_X7_stands
set_option maxRecDepth 20000 in
theorem ggX7_level_X7_lays : GoodIn wsX7_level wsX7_lays := goodIn_r _ [51, 6, 60, 61, 62, 63, 64, 65, 66, 67, 68, 69, 70, 71, 72] (by decide +kernel) (by decide +kernel)
set_option maxRecDepth 20000 in
theorem gX7_level_X7_lays : GoodIn wsX7_level (wsV RX7 75 RX7 yX7_lays wsX7_lays) := goodIn_app (goodIn_of _ (by decide +kernel)) ggX7_level_X7_lays
set_option maxRecDepth 20000 in
theorem ggX7_level_X7_moved : GoodIn wsX7_level wsX7_moved := goodIn_r _ [55, 24, 25, 26, 27, 4, 28, 29, 30, 31, 32, 33, 34, 35, 36, 6, 37, 38, 39, 40, 10, 11, 12, 13, 41, 42, 43, 44, 45, 46, 47, 56, 57, 58, 59, 60, 61, 62, 63, 64, 65, 66, 67, 68, 69, 70, 71, 72] (by decide +kernel) (by decide +kernel)
set_option maxRecDepth 20000 in
theorem gX7_level_X7_moved : GoodIn wsX7_level (wsV RX7 78 RX7 yX7_moved wsX7_moved) := goodIn_app (goodIn_of _ (by decide +kernel)) ggX7_level_X7_moved
theorem dX7_level_0 : decode cX7_level 0 = .ok (.aload_n 0, 1) := by decide +kernel
theorem dX7_level_1 : decode cX7_level 1 = .ok (.iload_n 1, 1) := by decide +kernel
theorem dX7_level_2 : decode cX7_level 2 = .ok (.invokevirtual 81, 3) := by decide +kernel
theorem dX7_level_5 : decode cX7_level 5 = .ok (.ifCond .eq 14, 3) := by decide +kernel
theorem dX7_level_8 : decode cX7_level 8 = .ok (.iload_n 2, 1) := by decide +kernel
theorem dX7_level_9 : decode cX7_level 9 = .ok (.iconst 0, 1) := by decide +kernel
theorem dX7_level_10 : decode cX7_level 10 = .ok (.sipush 2000, 3) := by decide +kernel
theorem dX7_level_13 : decode cX7_level 13 = .ok (.invokestatic 30, 3) := by decide +kernel
theorem dX7_level_16 : decode cX7_level 16 = .ok (.ifCond .ne 5, 3) := by decide +kernel
theorem dX7_level_19 : decode cX7_level 19 = .ok (.iconst (-1), 1) := by decide +kernel
theorem dX7_level_20 : decode cX7_level 20 = .ok (.ireturn, 1) := by decide +kernel
theorem dX7_level_21 : decode cX7_level 21 = .ok (.aload_n 0, 1) := by decide +kernel
theorem dX7_level_22 : decode cX7_level 22 = .ok (.iload_n 1, 1) := by decide +kernel
theorem dX7_level_23 : decode cX7_level 23 = .ok (.iconst 1, 1) := by decide +kernel
theorem dX7_level_24 : decode cX7_level 24 = .ok (.invokevirtual 38, 3) := by decide +kernel
theorem dX7_level_27 : decode cX7_level 27 = .ok (.istore_n 3, 1) := by decide +kernel
theorem dX7_level_28 : decode cX7_level 28 = .ok (.iload_n 2, 1) := by decide +kernel
theorem dX7_level_29 : decode cX7_level 29 = .ok (.iload_n 3, 1) := by decide +kernel
theorem dX7_level_30 : decode cX7_level 30 = .ok (.if_icmp .le 6, 3) := by decide +kernel
theorem dX7_level_33 : decode cX7_level 33 = .ok (.bipush (-2), 2) := by decide +kernel
theorem dX7_level_35 : decode cX7_level 35 = .ok (.ireturn, 1) := by decide +kernel
theorem dX7_level_36 : decode cX7_level 36 = .ok (.aload_n 0, 1) := by decide +kernel
theorem dX7_level_37 : decode cX7_level 37 = .ok (.invokevirtual 69, 3) := by decide +kernel
theorem dX7_level_40 : decode cX7_level 40 = .ok (.aload_n 0, 1) := by decide +kernel
theorem dX7_level_41 : decode cX7_level 41 = .ok (.invokevirtual 72, 3) := by decide +kernel
theorem dX7_level_44 : decode cX7_level 44 = .ok (.aload_n 0, 1) := by decide +kernel
theorem dX7_level_45 : decode cX7_level 45 = .ok (.iload_n 1, 1) := by decide +kernel
theorem dX7_level_46 : decode cX7_level 46 = .ok (.iconst 1, 1) := by decide +kernel
theorem dX7_level_47 : decode cX7_level 47 = .ok (.iload_n 2, 1) := by decide +kernel
theorem dX7_level_48 : decode cX7_level 48 = .ok (.invokevirtual 75, 3) := by decide +kernel
theorem dX7_level_51 : decode cX7_level 51 = .ok (.aload_n 0, 1) := by decide +kernel
theorem dX7_level_52 : decode cX7_level 52 = .ok (.iload_n 1, 1) := by decide +kernel
theorem dX7_level_53 : decode cX7_level 53 = .ok (.iconst 2, 1) := by decide +kernel
theorem dX7_level_54 : decode cX7_level 54 = .ok (.iconst 0, 1) := by decide +kernel
theorem dX7_level_55 : decode cX7_level 55 = .ok (.invokevirtual 75, 3) := by decide +kernel
theorem dX7_level_58 : decode cX7_level 58 = .ok (.aload_n 0, 1) := by decide +kernel
theorem dX7_level_59 : decode cX7_level 59 = .ok (.invokevirtual 78, 3) := by decide +kernel
theorem dX7_level_62 : decode cX7_level 62 = .ok (.iload_n 3, 1) := by decide +kernel
theorem dX7_level_63 : decode cX7_level 63 = .ok (.iload_n 2, 1) := by decide +kernel
theorem dX7_level_64 : decode cX7_level 64 = .ok (.isub, 1) := by decide +kernel
theorem dX7_level_65 : decode cX7_level 65 = .ok (.ireturn, 1) := by decide +kernel
set_option maxRecDepth 20000 in
theorem ggX7_stringsAt_X7_sounds : GoodIn wsX7_stringsAt wsX7_sounds := goodIn_r _ [5, 6, 7, 8, 4, 9, 10, 11, 12, 13, 14, 15, 16, 17, 18, 19, 20, 21, 22, 23, 24, 25, 26, 27, 28, 29, 30, 31, 32, 33, 34, 35, 36, 37, 38] (by decide +kernel) (by decide +kernel)
set_option maxRecDepth 20000 in
theorem gX7_stringsAt_X7_sounds : GoodIn wsX7_stringsAt (wsV RX7 55 RX7 yX7_sounds wsX7_sounds) := goodIn_app (goodIn_of _ (by decide +kernel)) ggX7_stringsAt_X7_sounds
set_option maxRecDepth 20000 in
theorem ggX7_stringsAt_X7_of : GoodIn wsX7_stringsAt wsX7_of := goodIn_r _ [9, 10, 26, 27, 28, 29, 30, 31, 32, 33, 34, 35, 36, 37, 38] (by decide +kernel) (by decide +kernel)
set_option maxRecDepth 20000 in
theorem gX7_stringsAt_X7_of : GoodIn wsX7_stringsAt (wsV RX7 48 RX7 yX7_of wsX7_of) := goodIn_app (goodIn_of _ (by decide +kernel)) ggX7_stringsAt_X7_of
theorem dX7_stringsAt_0 : decode cX7_stringsAt 0 = .ok (.iconst 0, 1) := by decide +kernel
theorem dX7_stringsAt_1 : decode cX7_stringsAt 1 = .ok (.istore_n 3, 1) := by decide +kernel
theorem dX7_stringsAt_2 : decode cX7_stringsAt 2 = .ok (.iconst 0, 1) := by decide +kernel
theorem dX7_stringsAt_3 : decode cX7_stringsAt 3 = .ok (.istore 4, 2) := by decide +kernel
theorem dX7_stringsAt_5 : decode cX7_stringsAt 5 = .ok (.iload 4, 2) := by decide +kernel
theorem dX7_stringsAt_7 : decode cX7_stringsAt 7 = .ok (.iconst 4, 1) := by decide +kernel
theorem dX7_stringsAt_8 : decode cX7_stringsAt 8 = .ok (.if_icmp .ge 48, 3) := by decide +kernel
theorem dX7_stringsAt_11 : decode cX7_stringsAt 11 = .ok (.iload_n 2, 1) := by decide +kernel
theorem dX7_stringsAt_12 : decode cX7_stringsAt 12 = .ok (.ifCond .eq 12, 3) := by decide +kernel
theorem dX7_stringsAt_15 : decode cX7_stringsAt 15 = .ok (.aload_n 0, 1) := by decide +kernel
theorem dX7_stringsAt_16 : decode cX7_stringsAt 16 = .ok (.iload 4, 2) := by decide +kernel
theorem dX7_stringsAt_18 : decode cX7_stringsAt 18 = .ok (.invokevirtual 55, 3) := by decide +kernel
theorem dX7_stringsAt_21 : decode cX7_stringsAt 21 = .ok (.goto 10, 3) := by decide +kernel
theorem dX7_stringsAt_24 : decode cX7_stringsAt 24 = .ok (.aload_n 0, 1) := by decide +kernel
theorem dX7_stringsAt_25 : decode cX7_stringsAt 25 = .ok (.iload 4, 2) := by decide +kernel
theorem dX7_stringsAt_27 : decode cX7_stringsAt 27 = .ok (.iconst 1, 1) := by decide +kernel
theorem dX7_stringsAt_28 : decode cX7_stringsAt 28 = .ok (.invokevirtual 48, 3) := by decide +kernel
theorem dX7_stringsAt_31 : decode cX7_stringsAt 31 = .ok (.istore 5, 2) := by decide +kernel
theorem dX7_stringsAt_33 : decode cX7_stringsAt 33 = .ok (.iload_n 3, 1) := by decide +kernel
theorem dX7_stringsAt_34 : decode cX7_stringsAt 34 = .ok (.iload 5, 2) := by decide +kernel
theorem dX7_stringsAt_36 : decode cX7_stringsAt 36 = .ok (.iload_n 1, 1) := by decide +kernel
theorem dX7_stringsAt_37 : decode cX7_stringsAt 37 = .ok (.if_icmp .ne 10, 3) := by decide +kernel
theorem dX7_stringsAt_40 : decode cX7_stringsAt 40 = .ok (.iconst 1, 1) := by decide +kernel
theorem dX7_stringsAt_41 : decode cX7_stringsAt 41 = .ok (.iload 4, 2) := by decide +kernel
theorem dX7_stringsAt_43 : decode cX7_stringsAt 43 = .ok (.ishl, 1) := by decide +kernel
theorem dX7_stringsAt_44 : decode cX7_stringsAt 44 = .ok (.goto 4, 3) := by decide +kernel
theorem dX7_stringsAt_47 : decode cX7_stringsAt 47 = .ok (.iconst 0, 1) := by decide +kernel
theorem dX7_stringsAt_48 : decode cX7_stringsAt 48 = .ok (.ior, 1) := by decide +kernel
theorem dX7_stringsAt_49 : decode cX7_stringsAt 49 = .ok (.istore_n 3, 1) := by decide +kernel
theorem dX7_stringsAt_50 : decode cX7_stringsAt 50 = .ok (.iinc 4 1, 3) := by decide +kernel
theorem dX7_stringsAt_53 : decode cX7_stringsAt 53 = .ok (.goto (-48), 3) := by decide +kernel
theorem dX7_stringsAt_56 : decode cX7_stringsAt 56 = .ok (.iload_n 3, 1) := by decide +kernel
theorem dX7_stringsAt_57 : decode cX7_stringsAt 57 = .ok (.ireturn, 1) := by decide +kernel
set_option maxRecDepth 20000 in
theorem ggX7_fretInfo_X7_isFret : GoodIn wsX7_fretInfo wsX7_isFret := goodIn_r _ [5, 6, 7, 8, 4, 9, 37, 38, 39, 40, 41, 42, 43, 44, 45, 46, 47, 48, 49] (by decide +kernel) (by decide +kernel)
set_option maxRecDepth 20000 in
theorem gX7_fretInfo_X7_isFret : GoodIn wsX7_fretInfo (wsV RX7 81 RX7 yX7_isFret wsX7_isFret) := goodIn_app (goodIn_of _ (by decide +kernel)) ggX7_fretInfo_X7_isFret
set_option maxRecDepth 20000 in
theorem ggX7_fretInfo_X7_in : GoodIn wsX7_fretInfo wsX7_in := goodIn_r _ [9] (by decide +kernel) (by decide +kernel)
set_option maxRecDepth 20000 in
theorem gX7_fretInfo_X7_in : GoodIn wsX7_fretInfo (va_wsS RX7 30 yX7_in wsX7_in) := goodIn_app (goodIn_of _ (by decide +kernel)) ggX7_fretInfo_X7_in
set_option maxRecDepth 20000 in
theorem ggX7_fretInfo_X7_on : GoodIn wsX7_fretInfo wsX7_on := goodIn_r _ [13, 6, 37, 38, 39, 40, 41, 42, 43, 44, 45, 46, 47, 48, 49] (by decide +kernel) (by decide +kernel)
set_option maxRecDepth 20000 in
theorem gX7_fretInfo_X7_on : GoodIn wsX7_fretInfo (wsV RX7 38 RX7 yX7_on wsX7_on) := goodIn_app (goodIn_of _ (by decide +kernel)) ggX7_fretInfo_X7_on
set_option maxRecDepth 20000 in
theorem ggX7_fretInfo_X7_stringsAt : GoodIn wsX7_fretInfo wsX7_stringsAt := goodIn_r _ [17, 18, 19, 20, 4, 21, 22, 23, 24, 25, 6, 26, 27, 28, 29, 10, 11, 12, 13, 30, 31, 32, 33, 34, 35, 36, 37, 38, 39, 40, 41, 42, 43, 44, 45, 46, 47, 48, 49] (by decide +kernel) (by decide +kernel)
set_option maxRecDepth 20000 in
theorem gX7_fretInfo_X7_stringsAt : GoodIn wsX7_fretInfo (wsV RX7 84 RX7 yX7_stringsAt wsX7_stringsAt) := goodIn_app (goodIn_of _ (by decide +kernel)) ggX7_fretInfo_X7_stringsAt
set_option maxRecDepth 20000 in
theorem ggX7_fretInfo_X7_soundingFret : GoodIn wsX7_fretInfo wsX7_soundingFret := goodIn_r _ [29, 6, 10, 11, 12, 4, 13, 30, 31, 32, 33, 34, 35, 36, 37, 38, 39, 40, 41, 42, 43, 44, 45, 46, 47, 48, 49] (by decide +kernel) (by decide +kernel)
set_option maxRecDepth 20000 in
theorem gX7_fretInfo_X7_soundingFret : GoodIn wsX7_fretInfo (wsV RX7 51 RX7 yX7_soundingFret wsX7_soundingFret) := goodIn_app (goodIn_of _ (by decide +kernel)) ggX7_fretInfo_X7_soundingFret
theorem dX7_fretInfo_0 : decode cX7_fretInfo 0 = .ok (.aload_n 0, 1) := by decide +kernel
theorem dX7_fretInfo_1 : decode cX7_fretInfo 1 = .ok (.iload_n 1, 1) := by decide +kernel
theorem dX7_fretInfo_2 : decode cX7_fretInfo 2 = .ok (.invokevirtual 81, 3) := by decide +kernel
theorem dX7_fretInfo_5 : decode cX7_fretInfo 5 = .ok (.ifCond .eq 12, 3) := by decide +kernel
theorem dX7_fretInfo_8 : decode cX7_fretInfo 8 = .ok (.iload_n 2, 1) := by decide +kernel
theorem dX7_fretInfo_9 : decode cX7_fretInfo 9 = .ok (.iconst 0, 1) := by decide +kernel
theorem dX7_fretInfo_10 : decode cX7_fretInfo 10 = .ok (.iconst 5, 1) := by decide +kernel
theorem dX7_fretInfo_11 : decode cX7_fretInfo 11 = .ok (.invokestatic 30, 3) := by decide +kernel
theorem dX7_fretInfo_14 : decode cX7_fretInfo 14 = .ok (.ifCond .ne 5, 3) := by decide +kernel
theorem dX7_fretInfo_17 : decode cX7_fretInfo 17 = .ok (.iconst (-1), 1) := by decide +kernel
theorem dX7_fretInfo_18 : decode cX7_fretInfo 18 = .ok (.ireturn, 1) := by decide +kernel
theorem dX7_fretInfo_19 : decode cX7_fretInfo 19 = .ok (.iload_n 2, 1) := by decide +kernel
theorem dX7_fretInfo_20 : decode cX7_fretInfo 20 = .ok (.iconst 3, 1) := by decide +kernel
theorem dX7_fretInfo_21 : decode cX7_fretInfo 21 = .ok (.if_icmp .ge 12, 3) := by decide +kernel
theorem dX7_fretInfo_24 : decode cX7_fretInfo 24 = .ok (.aload_n 0, 1) := by decide +kernel
theorem dX7_fretInfo_25 : decode cX7_fretInfo 25 = .ok (.iload_n 1, 1) := by decide +kernel
theorem dX7_fretInfo_26 : decode cX7_fretInfo 26 = .ok (.iload_n 2, 1) := by decide +kernel
theorem dX7_fretInfo_27 : decode cX7_fretInfo 27 = .ok (.invokevirtual 38, 3) := by decide +kernel
theorem dX7_fretInfo_30 : decode cX7_fretInfo 30 = .ok (.goto 31, 3) := by decide +kernel
theorem dX7_fretInfo_33 : decode cX7_fretInfo 33 = .ok (.iload_n 2, 1) := by decide +kernel
theorem dX7_fretInfo_34 : decode cX7_fretInfo 34 = .ok (.iconst 5, 1) := by decide +kernel
theorem dX7_fretInfo_35 : decode cX7_fretInfo 35 = .ok (.if_icmp .ge 21, 3) := by decide +kernel
theorem dX7_fretInfo_38 : decode cX7_fretInfo 38 = .ok (.aload_n 0, 1) := by decide +kernel
theorem dX7_fretInfo_39 : decode cX7_fretInfo 39 = .ok (.iload_n 1, 1) := by decide +kernel
theorem dX7_fretInfo_40 : decode cX7_fretInfo 40 = .ok (.iload_n 2, 1) := by decide +kernel
theorem dX7_fretInfo_41 : decode cX7_fretInfo 41 = .ok (.iconst 4, 1) := by decide +kernel
theorem dX7_fretInfo_42 : decode cX7_fretInfo 42 = .ok (.if_icmp .ne 7, 3) := by decide +kernel
theorem dX7_fretInfo_45 : decode cX7_fretInfo 45 = .ok (.iconst 1, 1) := by decide +kernel
theorem dX7_fretInfo_46 : decode cX7_fretInfo 46 = .ok (.goto 4, 3) := by decide +kernel
theorem dX7_fretInfo_49 : decode cX7_fretInfo 49 = .ok (.iconst 0, 1) := by decide +kernel
theorem dX7_fretInfo_50 : decode cX7_fretInfo 50 = .ok (.invokevirtual 84, 3) := by decide +kernel
theorem dX7_fretInfo_53 : decode cX7_fretInfo 53 = .ok (.goto 8, 3) := by decide +kernel
theorem dX7_fretInfo_56 : decode cX7_fretInfo 56 = .ok (.aload_n 0, 1) := by decide +kernel
theorem dX7_fretInfo_57 : decode cX7_fretInfo 57 = .ok (.iload_n 1, 1) := by decide +kernel
theorem dX7_fretInfo_58 : decode cX7_fretInfo 58 = .ok (.invokevirtual 51, 3) := by decide +kernel
theorem dX7_fretInfo_61 : decode cX7_fretInfo 61 = .ok (.ireturn, 1) := by decide +kernel
set_option maxRecDepth 20000 in
theorem ggX7_mostFor_X7_isFret : GoodIn wsX7_mostFor wsX7_isFret := goodIn_r _ [5, 6, 7, 8, 4, 9, 21, 22, 23, 24, 25, 26, 27, 28, 29, 30, 31, 32, 33] (by decide +kernel) (by decide +kernel)
set_option maxRecDepth 20000 in
theorem gX7_mostFor_X7_isFret : GoodIn wsX7_mostFor (wsV RX7 81 RX7 yX7_isFret wsX7_isFret) := goodIn_app (goodIn_of _ (by decide +kernel)) ggX7_mostFor_X7_isFret
set_option maxRecDepth 20000 in
theorem ggX7_mostFor_X7_on : GoodIn wsX7_mostFor wsX7_on := goodIn_r _ [13, 6, 21, 22, 23, 24, 25, 26, 27, 28, 29, 30, 31, 32, 33] (by decide +kernel) (by decide +kernel)
set_option maxRecDepth 20000 in
theorem gX7_mostFor_X7_on : GoodIn wsX7_mostFor (wsV RX7 38 RX7 yX7_on wsX7_on) := goodIn_app (goodIn_of _ (by decide +kernel)) ggX7_mostFor_X7_on
set_option maxRecDepth 20000 in
theorem ggX7_mostFor_X7_lineOf : GoodIn wsX7_mostFor wsX7_lineOf := goodIn_r _ [17, 10, 11, 12, 4, 13, 6, 18, 19, 20, 21, 22, 23, 24, 25, 26, 27, 28, 29, 30, 31, 32, 33] (by decide +kernel) (by decide +kernel)
set_option maxRecDepth 20000 in
theorem gX7_mostFor_X7_lineOf : GoodIn wsX7_mostFor (wsV RX7 45 RX7 yX7_lineOf wsX7_lineOf) := goodIn_app (goodIn_of _ (by decide +kernel)) ggX7_mostFor_X7_lineOf
theorem dX7_mostFor_0 : decode cX7_mostFor 0 = .ok (.aload_n 0, 1) := by decide +kernel
theorem dX7_mostFor_1 : decode cX7_mostFor 1 = .ok (.iload_n 1, 1) := by decide +kernel
theorem dX7_mostFor_2 : decode cX7_mostFor 2 = .ok (.invokevirtual 81, 3) := by decide +kernel
theorem dX7_mostFor_5 : decode cX7_mostFor 5 = .ok (.ifCond .ne 5, 3) := by decide +kernel
theorem dX7_mostFor_8 : decode cX7_mostFor 8 = .ok (.iconst (-1), 1) := by decide +kernel
theorem dX7_mostFor_9 : decode cX7_mostFor 9 = .ok (.ireturn, 1) := by decide +kernel
theorem dX7_mostFor_10 : decode cX7_mostFor 10 = .ok (.sipush 2000, 3) := by decide +kernel
theorem dX7_mostFor_13 : decode cX7_mostFor 13 = .ok (.istore_n 2, 1) := by decide +kernel
theorem dX7_mostFor_14 : decode cX7_mostFor 14 = .ok (.iconst 1, 1) := by decide +kernel
theorem dX7_mostFor_15 : decode cX7_mostFor 15 = .ok (.istore_n 3, 1) := by decide +kernel
theorem dX7_mostFor_16 : decode cX7_mostFor 16 = .ok (.iload_n 3, 1) := by decide +kernel
theorem dX7_mostFor_17 : decode cX7_mostFor 17 = .ok (.iload_n 1, 1) := by decide +kernel
theorem dX7_mostFor_18 : decode cX7_mostFor 18 = .ok (.if_icmp .ge 35, 3) := by decide +kernel
theorem dX7_mostFor_21 : decode cX7_mostFor 21 = .ok (.aload_n 0, 1) := by decide +kernel
theorem dX7_mostFor_22 : decode cX7_mostFor 22 = .ok (.iload_n 3, 1) := by decide +kernel
theorem dX7_mostFor_23 : decode cX7_mostFor 23 = .ok (.aload_n 0, 1) := by decide +kernel
theorem dX7_mostFor_24 : decode cX7_mostFor 24 = .ok (.iload_n 1, 1) := by decide +kernel
theorem dX7_mostFor_25 : decode cX7_mostFor 25 = .ok (.iconst 0, 1) := by decide +kernel
theorem dX7_mostFor_26 : decode cX7_mostFor 26 = .ok (.invokevirtual 38, 3) := by decide +kernel
theorem dX7_mostFor_29 : decode cX7_mostFor 29 = .ok (.invokevirtual 45, 3) := by decide +kernel
theorem dX7_mostFor_32 : decode cX7_mostFor 32 = .ok (.istore 4, 2) := by decide +kernel
theorem dX7_mostFor_34 : decode cX7_mostFor 34 = .ok (.iload 4, 2) := by decide +kernel
theorem dX7_mostFor_36 : decode cX7_mostFor 36 = .ok (.iload_n 2, 1) := by decide +kernel
theorem dX7_mostFor_37 : decode cX7_mostFor 37 = .ok (.if_icmp .ge 8, 3) := by decide +kernel
theorem dX7_mostFor_40 : decode cX7_mostFor 40 = .ok (.iload 4, 2) := by decide +kernel
theorem dX7_mostFor_42 : decode cX7_mostFor 42 = .ok (.goto 4, 3) := by decide +kernel
theorem dX7_mostFor_45 : decode cX7_mostFor 45 = .ok (.iload_n 2, 1) := by decide +kernel
theorem dX7_mostFor_46 : decode cX7_mostFor 46 = .ok (.istore_n 2, 1) := by decide +kernel
theorem dX7_mostFor_47 : decode cX7_mostFor 47 = .ok (.iinc 3 1, 3) := by decide +kernel
theorem dX7_mostFor_50 : decode cX7_mostFor 50 = .ok (.goto (-34), 3) := by decide +kernel
theorem dX7_mostFor_53 : decode cX7_mostFor 53 = .ok (.iload_n 2, 1) := by decide +kernel
theorem dX7_mostFor_54 : decode cX7_mostFor 54 = .ok (.ifCond .ge 8, 3) := by decide +kernel
theorem dX7_mostFor_57 : decode cX7_mostFor 57 = .ok (.bipush (-4), 2) := by decide +kernel
theorem dX7_mostFor_59 : decode cX7_mostFor 59 = .ok (.goto 4, 3) := by decide +kernel
theorem dX7_mostFor_62 : decode cX7_mostFor 62 = .ok (.iload_n 2, 1) := by decide +kernel
theorem dX7_mostFor_63 : decode cX7_mostFor 63 = .ok (.ireturn, 1) := by decide +kernel
set_option maxRecDepth 20000 in
theorem ggX7_tune_X7_isString : GoodIn wsX7_tune wsX7_isString := goodIn_r _ [5, 6, 7, 4, 8] (by decide +kernel) (by decide +kernel)
set_option maxRecDepth 20000 in
theorem gX7_tune_X7_isString : GoodIn wsX7_tune (va_wsS RX7 88 yX7_isString wsX7_isString) := goodIn_app (goodIn_of _ (by decide +kernel)) ggX7_tune_X7_isString
set_option maxRecDepth 20000 in
theorem ggX7_tune_X7_in : GoodIn wsX7_tune wsX7_in := goodIn_r _ [8] (by decide +kernel) (by decide +kernel)
set_option maxRecDepth 20000 in
theorem gX7_tune_X7_in : GoodIn wsX7_tune (va_wsS RX7 30 yX7_in wsX7_in) := goodIn_app (goodIn_of _ (by decide +kernel)) ggX7_tune_X7_in
set_option maxRecDepth 20000 in
theorem ggX7_tune_X7_records : GoodIn wsX7_tune wsX7_records := goodIn_r _ [12, 13, 14, 15, 24, 25, 26, 27, 28, 29, 30, 31, 32, 33, 34, 35, 36] (by decide +kernel) (by decide +kernel)
set_option maxRecDepth 20000 in
theorem gX7_tune_X7_records : GoodIn wsX7_tune (wsV RX7 69 RX7 yX7_records wsX7_records) := goodIn_app (goodIn_of _ (by decide +kernel)) ggX7_tune_X7_records
set_option maxRecDepth 20000 in
theorem ggX7_tune_X7_of : GoodIn wsX7_tune wsX7_of := goodIn_r _ [19, 15, 24, 25, 26, 27, 28, 29, 30, 31, 32, 33, 34, 35, 36] (by decide +kernel) (by decide +kernel)
set_option maxRecDepth 20000 in
theorem gX7_tune_X7_of : GoodIn wsX7_tune (wsV RX7 48 RX7 yX7_of wsX7_of) := goodIn_app (goodIn_of _ (by decide +kernel)) ggX7_tune_X7_of
set_option maxRecDepth 20000 in
theorem ggX7_tune_X7_puts : GoodIn wsX7_tune wsX7_puts := goodIn_r _ [23, 15, 24, 25, 26, 27, 28, 29, 30, 31, 32, 33, 34, 35, 36] (by decide +kernel) (by decide +kernel)
set_option maxRecDepth 20000 in
theorem gX7_tune_X7_puts : GoodIn wsX7_tune (wsV RX7 23 RX7 yX7_puts wsX7_puts) := goodIn_app (goodIn_of _ (by decide +kernel)) ggX7_tune_X7_puts
theorem dX7_tune_0 : decode cX7_tune 0 = .ok (.iload_n 1, 1) := by decide +kernel
theorem dX7_tune_1 : decode cX7_tune 1 = .ok (.invokestatic 88, 3) := by decide +kernel
theorem dX7_tune_4 : decode cX7_tune 4 = .ok (.ifCond .eq 15, 3) := by decide +kernel
theorem dX7_tune_7 : decode cX7_tune 7 = .ok (.iload_n 2, 1) := by decide +kernel
theorem dX7_tune_8 : decode cX7_tune 8 = .ok (.sipush 1000, 3) := by decide +kernel
theorem dX7_tune_11 : decode cX7_tune 11 = .ok (.ldc 91, 2) := by decide +kernel
theorem dX7_tune_13 : decode cX7_tune 13 = .ok (.invokestatic 30, 3) := by decide +kernel
theorem dX7_tune_16 : decode cX7_tune 16 = .ok (.ifCond .ne 5, 3) := by decide +kernel
theorem dX7_tune_19 : decode cX7_tune 19 = .ok (.iconst (-1), 1) := by decide +kernel
theorem dX7_tune_20 : decode cX7_tune 20 = .ok (.ireturn, 1) := by decide +kernel
theorem dX7_tune_21 : decode cX7_tune 21 = .ok (.aload_n 0, 1) := by decide +kernel
theorem dX7_tune_22 : decode cX7_tune 22 = .ok (.invokevirtual 69, 3) := by decide +kernel
theorem dX7_tune_25 : decode cX7_tune 25 = .ok (.aload_n 0, 1) := by decide +kernel
theorem dX7_tune_26 : decode cX7_tune 26 = .ok (.iload_n 1, 1) := by decide +kernel
theorem dX7_tune_27 : decode cX7_tune 27 = .ok (.iconst 0, 1) := by decide +kernel
theorem dX7_tune_28 : decode cX7_tune 28 = .ok (.invokevirtual 48, 3) := by decide +kernel
theorem dX7_tune_31 : decode cX7_tune 31 = .ok (.istore_n 3, 1) := by decide +kernel
theorem dX7_tune_32 : decode cX7_tune 32 = .ok (.aload_n 0, 1) := by decide +kernel
theorem dX7_tune_33 : decode cX7_tune 33 = .ok (.iload_n 1, 1) := by decide +kernel
theorem dX7_tune_34 : decode cX7_tune 34 = .ok (.iconst 0, 1) := by decide +kernel
theorem dX7_tune_35 : decode cX7_tune 35 = .ok (.iload_n 2, 1) := by decide +kernel
theorem dX7_tune_36 : decode cX7_tune 36 = .ok (.invokevirtual 23, 3) := by decide +kernel
theorem dX7_tune_39 : decode cX7_tune 39 = .ok (.iload_n 3, 1) := by decide +kernel
theorem dX7_tune_40 : decode cX7_tune 40 = .ok (.ireturn, 1) := by decide +kernel
set_option maxRecDepth 20000 in
theorem ggX7_presses_X7_stands : GoodIn wsX7_presses wsX7_stands := goodIn_r _ [5, 6, 7, 8, 9, 4, 10, 11, 12, 13, 14, 15, 16, 17, 18, 19, 20, 21, 22, 23, 24, 25, 26, 27, 28, 29, 30, 31, 32, 33, 34, 47, 48, 49, 50, 51, 52, 53, 54, 55, 56, 57, 58, 59] (by decide +kernel) (by decide +kernel)
set_option maxRecDepth 20000 in
theorem gX7_presses_X7_stands : GoodIn wsX7_presses (wsV RX7 72 RX7 yX7_stands wsX7_stands) := goodIn_app (goodIn_of _ (by decide +kernel)) ggX7_presses_X7_stands
set_option maxRecDepth 20000 in
theorem ggX7_presses_X7_puts : GoodIn wsX7_presses wsX7_puts := goodIn_r _ [38, 19, 47, 48, 49, 50, 51, 52, 53, 54, 55, 56, 57, 58, 59] (by decide +kernel) (by decide +kernel)
set_option maxRecDepth 20000 in
theorem gX7_presses_X7_puts : GoodIn wsX7_presses (wsV RX7 23 RX7 yX7_puts wsX7_puts) := goodIn_app (goodIn_of _ (by decide +kernel)) ggX7_presses_X7_puts
set_option maxRecDepth 20000 in
theorem ggX7_presses_X7_moved : GoodIn wsX7_presses wsX7_moved := goodIn_r _ [42, 6, 7, 8, 9, 4, 10, 11, 12, 13, 14, 15, 16, 17, 18, 19, 20, 21, 22, 23, 24, 25, 26, 27, 28, 29, 30, 31, 32, 33, 34, 43, 44, 45, 46, 47, 48, 49, 50, 51, 52, 53, 54, 55, 56, 57, 58, 59] (by decide +kernel) (by decide +kernel)
set_option maxRecDepth 20000 in
theorem gX7_presses_X7_moved : GoodIn wsX7_presses (wsV RX7 78 RX7 yX7_moved wsX7_moved) := goodIn_app (goodIn_of _ (by decide +kernel)) ggX7_presses_X7_moved
theorem dX7_presses_0 : decode cX7_presses 0 = .ok (.aload_n 0, 1) := by decide +kernel
theorem dX7_presses_1 : decode cX7_presses 1 = .ok (.invokevirtual 72, 3) := by decide +kernel
theorem dX7_presses_4 : decode cX7_presses 4 = .ok (.aload_n 0, 1) := by decide +kernel
theorem dX7_presses_5 : decode cX7_presses 5 = .ok (.iload_n 1, 1) := by decide +kernel
theorem dX7_presses_6 : decode cX7_presses 6 = .ok (.iconst 1, 1) := by decide +kernel
theorem dX7_presses_7 : decode cX7_presses 7 = .ok (.iload_n 2, 1) := by decide +kernel
theorem dX7_presses_8 : decode cX7_presses 8 = .ok (.invokevirtual 23, 3) := by decide +kernel
theorem dX7_presses_11 : decode cX7_presses 11 = .ok (.aload_n 0, 1) := by decide +kernel
theorem dX7_presses_12 : decode cX7_presses 12 = .ok (.invokevirtual 78, 3) := by decide +kernel
theorem dX7_presses_15 : decode cX7_presses 15 = .ok (.return_, 1) := by decide +kernel
set_option maxRecDepth 20000 in
theorem ggX7_press_X7_isString : GoodIn wsX7_press wsX7_isString := goodIn_r _ [4, 5, 6, 3, 7] (by decide +kernel) (by decide +kernel)
set_option maxRecDepth 20000 in
theorem gX7_press_X7_isString : GoodIn wsX7_press (va_wsS RX7 88 yX7_isString wsX7_isString) := goodIn_app (goodIn_of _ (by decide +kernel)) ggX7_press_X7_isString
set_option maxRecDepth 20000 in
theorem ggX7_press_X7_isFret : GoodIn wsX7_press wsX7_isFret := goodIn_r _ [11, 12, 5, 6, 3, 7, 71, 72, 73, 74, 75, 76, 77, 78, 79, 80, 81, 82, 83] (by decide +kernel) (by decide +kernel)
set_option maxRecDepth 20000 in
theorem gX7_press_X7_isFret : GoodIn wsX7_press (wsV RX7 81 RX7 yX7_isFret wsX7_isFret) := goodIn_app (goodIn_of _ (by decide +kernel)) ggX7_press_X7_isFret
set_option maxRecDepth 20000 in
theorem ggX7_press_X7_records : GoodIn wsX7_press wsX7_records := goodIn_r _ [16, 17, 18, 12, 71, 72, 73, 74, 75, 76, 77, 78, 79, 80, 81, 82, 83] (by decide +kernel) (by decide +kernel)
set_option maxRecDepth 20000 in
theorem gX7_press_X7_records : GoodIn wsX7_press (wsV RX7 69 RX7 yX7_records wsX7_records) := goodIn_app (goodIn_of _ (by decide +kernel)) ggX7_press_X7_records
set_option maxRecDepth 20000 in
theorem ggX7_press_X7_presses : GoodIn wsX7_press wsX7_presses := goodIn_r _ [22, 23, 24, 25, 3, 26, 27, 28, 29, 30, 31, 32, 33, 34, 35, 36, 37, 38, 39, 12, 40, 41, 42, 43, 44, 45, 46, 47, 48, 49, 50, 51, 52, 53, 54, 55, 56, 57, 58, 59, 60, 61, 62, 63, 64, 65, 66, 71, 72, 73, 74, 75, 76, 77, 78, 79, 80, 81, 82, 83] (by decide +kernel) (by decide +kernel)
set_option maxRecDepth 20000 in
theorem gX7_press_X7_presses : GoodIn wsX7_press (wsV RX7 92 RX7 yX7_presses wsX7_presses) := goodIn_app (goodIn_of _ (by decide +kernel)) ggX7_press_X7_presses
set_option maxRecDepth 20000 in
theorem ggX7_press_X7_lengthOf : GoodIn wsX7_press wsX7_lengthOf := goodIn_r _ [70, 28, 29, 30, 3, 31, 32, 33, 34, 35, 36, 37, 38, 39, 12, 40, 41, 42, 43, 44, 45, 46, 47, 48, 49, 50, 51, 52, 53, 54, 71, 72, 73, 74, 75, 76, 77, 78, 79, 80, 81, 82, 83] (by decide +kernel) (by decide +kernel)
set_option maxRecDepth 20000 in
theorem gX7_press_X7_lengthOf : GoodIn wsX7_press (wsV RX7 96 RX7 yX7_lengthOf wsX7_lengthOf) := goodIn_app (goodIn_of _ (by decide +kernel)) ggX7_press_X7_lengthOf
theorem dX7_press_0 : decode cX7_press 0 = .ok (.iload_n 1, 1) := by decide +kernel
theorem dX7_press_1 : decode cX7_press 1 = .ok (.invokestatic 88, 3) := by decide +kernel
theorem dX7_press_4 : decode cX7_press 4 = .ok (.ifCond .eq 15, 3) := by decide +kernel
theorem dX7_press_7 : decode cX7_press 7 = .ok (.iload_n 2, 1) := by decide +kernel
theorem dX7_press_8 : decode cX7_press 8 = .ok (.ifCond .eq 13, 3) := by decide +kernel
theorem dX7_press_11 : decode cX7_press 11 = .ok (.aload_n 0, 1) := by decide +kernel
theorem dX7_press_12 : decode cX7_press 12 = .ok (.iload_n 2, 1) := by decide +kernel
theorem dX7_press_13 : decode cX7_press 13 = .ok (.invokevirtual 81, 3) := by decide +kernel
theorem dX7_press_16 : decode cX7_press 16 = .ok (.ifCond .ne 5, 3) := by decide +kernel
theorem dX7_press_19 : decode cX7_press 19 = .ok (.iconst (-1), 1) := by decide +kernel
theorem dX7_press_20 : decode cX7_press 20 = .ok (.ireturn, 1) := by decide +kernel
theorem dX7_press_21 : decode cX7_press 21 = .ok (.aload_n 0, 1) := by decide +kernel
theorem dX7_press_22 : decode cX7_press 22 = .ok (.invokevirtual 69, 3) := by decide +kernel
theorem dX7_press_25 : decode cX7_press 25 = .ok (.aload_n 0, 1) := by decide +kernel
theorem dX7_press_26 : decode cX7_press 26 = .ok (.iload_n 1, 1) := by decide +kernel
theorem dX7_press_27 : decode cX7_press 27 = .ok (.iload_n 2, 1) := by decide +kernel
theorem dX7_press_28 : decode cX7_press 28 = .ok (.invokevirtual 92, 3) := by decide +kernel
theorem dX7_press_31 : decode cX7_press 31 = .ok (.aload_n 0, 1) := by decide +kernel
theorem dX7_press_32 : decode cX7_press 32 = .ok (.iload_n 1, 1) := by decide +kernel
theorem dX7_press_33 : decode cX7_press 33 = .ok (.invokevirtual 96, 3) := by decide +kernel
theorem dX7_press_36 : decode cX7_press 36 = .ok (.ireturn, 1) := by decide +kernel
set_option maxRecDepth 20000 in
theorem ggX7_touch_X7_isString : GoodIn wsX7_touch wsX7_isString := goodIn_r _ [4, 5, 6, 3, 7] (by decide +kernel) (by decide +kernel)
set_option maxRecDepth 20000 in
theorem gX7_touch_X7_isString : GoodIn wsX7_touch (va_wsS RX7 88 yX7_isString wsX7_isString) := goodIn_app (goodIn_of _ (by decide +kernel)) ggX7_touch_X7_isString
set_option maxRecDepth 20000 in
theorem ggX7_touch_X7_in : GoodIn wsX7_touch wsX7_in := goodIn_r _ [7] (by decide +kernel) (by decide +kernel)
set_option maxRecDepth 20000 in
theorem gX7_touch_X7_in : GoodIn wsX7_touch (va_wsS RX7 30 yX7_in wsX7_in) := goodIn_app (goodIn_of _ (by decide +kernel)) ggX7_touch_X7_in
set_option maxRecDepth 20000 in
theorem ggX7_touch_X7_records : GoodIn wsX7_touch wsX7_records := goodIn_r _ [11, 12, 13, 14, 23, 24, 25, 26, 27, 28, 29, 30, 31, 32, 33, 34, 35] (by decide +kernel) (by decide +kernel)
set_option maxRecDepth 20000 in
theorem gX7_touch_X7_records : GoodIn wsX7_touch (wsV RX7 69 RX7 yX7_records wsX7_records) := goodIn_app (goodIn_of _ (by decide +kernel)) ggX7_touch_X7_records
set_option maxRecDepth 20000 in
theorem ggX7_touch_X7_of : GoodIn wsX7_touch wsX7_of := goodIn_r _ [18, 14, 23, 24, 25, 26, 27, 28, 29, 30, 31, 32, 33, 34, 35] (by decide +kernel) (by decide +kernel)
set_option maxRecDepth 20000 in
theorem gX7_touch_X7_of : GoodIn wsX7_touch (wsV RX7 48 RX7 yX7_of wsX7_of) := goodIn_app (goodIn_of _ (by decide +kernel)) ggX7_touch_X7_of
set_option maxRecDepth 20000 in
theorem ggX7_touch_X7_puts : GoodIn wsX7_touch wsX7_puts := goodIn_r _ [22, 14, 23, 24, 25, 26, 27, 28, 29, 30, 31, 32, 33, 34, 35] (by decide +kernel) (by decide +kernel)
set_option maxRecDepth 20000 in
theorem gX7_touch_X7_puts : GoodIn wsX7_touch (wsV RX7 23 RX7 yX7_puts wsX7_puts) := goodIn_app (goodIn_of _ (by decide +kernel)) ggX7_touch_X7_puts
theorem dX7_touch_0 : decode cX7_touch 0 = .ok (.iload_n 1, 1) := by decide +kernel
theorem dX7_touch_1 : decode cX7_touch 1 = .ok (.invokestatic 88, 3) := by decide +kernel
theorem dX7_touch_4 : decode cX7_touch 4 = .ok (.ifCond .eq 14, 3) := by decide +kernel
theorem dX7_touch_7 : decode cX7_touch 7 = .ok (.iload_n 2, 1) := by decide +kernel
theorem dX7_touch_8 : decode cX7_touch 8 = .ok (.iconst 0, 1) := by decide +kernel
theorem dX7_touch_9 : decode cX7_touch 9 = .ok (.sipush 2519, 3) := by decide +kernel
theorem dX7_touch_12 : decode cX7_touch 12 = .ok (.invokestatic 30, 3) := by decide +kernel
theorem dX7_touch_15 : decode cX7_touch 15 = .ok (.ifCond .ne 5, 3) := by decide +kernel
theorem dX7_touch_18 : decode cX7_touch 18 = .ok (.iconst (-1), 1) := by decide +kernel
theorem dX7_touch_19 : decode cX7_touch 19 = .ok (.ireturn, 1) := by decide +kernel
theorem dX7_touch_20 : decode cX7_touch 20 = .ok (.aload_n 0, 1) := by decide +kernel
theorem dX7_touch_21 : decode cX7_touch 21 = .ok (.invokevirtual 69, 3) := by decide +kernel
theorem dX7_touch_24 : decode cX7_touch 24 = .ok (.aload_n 0, 1) := by decide +kernel
theorem dX7_touch_25 : decode cX7_touch 25 = .ok (.iload_n 1, 1) := by decide +kernel
theorem dX7_touch_26 : decode cX7_touch 26 = .ok (.iconst 2, 1) := by decide +kernel
theorem dX7_touch_27 : decode cX7_touch 27 = .ok (.invokevirtual 48, 3) := by decide +kernel
theorem dX7_touch_30 : decode cX7_touch 30 = .ok (.istore_n 3, 1) := by decide +kernel
theorem dX7_touch_31 : decode cX7_touch 31 = .ok (.aload_n 0, 1) := by decide +kernel
theorem dX7_touch_32 : decode cX7_touch 32 = .ok (.iload_n 1, 1) := by decide +kernel
theorem dX7_touch_33 : decode cX7_touch 33 = .ok (.iconst 2, 1) := by decide +kernel
theorem dX7_touch_34 : decode cX7_touch 34 = .ok (.iload_n 2, 1) := by decide +kernel
theorem dX7_touch_35 : decode cX7_touch 35 = .ok (.invokevirtual 23, 3) := by decide +kernel
theorem dX7_touch_38 : decode cX7_touch 38 = .ok (.iload_n 3, 1) := by decide +kernel
theorem dX7_touch_39 : decode cX7_touch 39 = .ok (.ireturn, 1) := by decide +kernel
theorem dX7_loud_0 : decode cX7_loud 0 = .ok (.aload_n 0, 1) := by decide +kernel
theorem dX7_loud_1 : decode cX7_loud 1 = .ok (.getfield 7, 3) := by decide +kernel
theorem dX7_loud_4 : decode cX7_loud 4 = .ok (.bipush 61, 2) := by decide +kernel
theorem dX7_loud_6 : decode cX7_loud 6 = .ok (.bipush 12, 2) := by decide +kernel
theorem dX7_loud_8 : decode cX7_loud 8 = .ok (.iload_n 1, 1) := by decide +kernel
theorem dX7_loud_9 : decode cX7_loud 9 = .ok (.imul, 1) := by decide +kernel
theorem dX7_loud_10 : decode cX7_loud 10 = .ok (.iadd, 1) := by decide +kernel
theorem dX7_loud_11 : decode cX7_loud 11 = .ok (.iload_n 2, 1) := by decide +kernel
theorem dX7_loud_12 : decode cX7_loud 12 = .ok (.iadd, 1) := by decide +kernel
theorem dX7_loud_13 : decode cX7_loud 13 = .ok (.iconst 1, 1) := by decide +kernel
theorem dX7_loud_14 : decode cX7_loud 14 = .ok (.isub, 1) := by decide +kernel
theorem dX7_loud_15 : decode cX7_loud 15 = .ok (.iaload, 1) := by decide +kernel
theorem dX7_loud_16 : decode cX7_loud 16 = .ok (.ireturn, 1) := by decide +kernel
set_option maxRecDepth 20000 in
theorem ggX7_isHeard_X7_loud : GoodIn wsX7_isHeard wsX7_loud := goodIn_r _ [5, 6, 11, 12, 13, 14, 15, 16, 17, 18, 19, 20, 21, 22, 23] (by decide +kernel) (by decide +kernel)
set_option maxRecDepth 20000 in
theorem gX7_isHeard_X7_loud : GoodIn wsX7_isHeard (wsV RX7 99 RX7 yX7_loud wsX7_loud) := goodIn_app (goodIn_of _ (by decide +kernel)) ggX7_isHeard_X7_loud
set_option maxRecDepth 20000 in
theorem ggX7_isHeard_X7_setting : GoodIn wsX7_isHeard wsX7_setting := goodIn_r _ [10, 6, 11, 12, 13, 14, 15, 16, 17, 18, 19, 20, 21, 22, 23] (by decide +kernel) (by decide +kernel)
set_option maxRecDepth 20000 in
theorem gX7_isHeard_X7_setting : GoodIn wsX7_isHeard (wsV RX7 102 RX7 yX7_setting wsX7_setting) := goodIn_app (goodIn_of _ (by decide +kernel)) ggX7_isHeard_X7_setting
theorem dX7_isHeard_0 : decode cX7_isHeard 0 = .ok (.aload_n 0, 1) := by decide +kernel
theorem dX7_isHeard_1 : decode cX7_isHeard 1 = .ok (.iload_n 1, 1) := by decide +kernel
theorem dX7_isHeard_2 : decode cX7_isHeard 2 = .ok (.iload_n 2, 1) := by decide +kernel
theorem dX7_isHeard_3 : decode cX7_isHeard 3 = .ok (.invokevirtual 99, 3) := by decide +kernel
theorem dX7_isHeard_6 : decode cX7_isHeard 6 = .ok (.istore_n 3, 1) := by decide +kernel
theorem dX7_isHeard_7 : decode cX7_isHeard 7 = .ok (.iload_n 3, 1) := by decide +kernel
theorem dX7_isHeard_8 : decode cX7_isHeard 8 = .ok (.ifCond .le 16, 3) := by decide +kernel
theorem dX7_isHeard_11 : decode cX7_isHeard 11 = .ok (.iload_n 3, 1) := by decide +kernel
theorem dX7_isHeard_12 : decode cX7_isHeard 12 = .ok (.aload_n 0, 1) := by decide +kernel
theorem dX7_isHeard_13 : decode cX7_isHeard 13 = .ok (.iconst 4, 1) := by decide +kernel
theorem dX7_isHeard_14 : decode cX7_isHeard 14 = .ok (.invokevirtual 102, 3) := by decide +kernel
theorem dX7_isHeard_17 : decode cX7_isHeard 17 = .ok (.if_icmp .lt 7, 3) := by decide +kernel
theorem dX7_isHeard_20 : decode cX7_isHeard 20 = .ok (.iconst 1, 1) := by decide +kernel
theorem dX7_isHeard_21 : decode cX7_isHeard 21 = .ok (.goto 4, 3) := by decide +kernel
theorem dX7_isHeard_24 : decode cX7_isHeard 24 = .ok (.iconst 0, 1) := by decide +kernel
theorem dX7_isHeard_25 : decode cX7_isHeard 25 = .ok (.ireturn, 1) := by decide +kernel
set_option maxRecDepth 20000 in
theorem ggX7_heardOf_X7_isHeard : GoodIn wsX7_heardOf wsX7_isHeard := goodIn_r _ [5, 6, 7, 8, 4, 9, 10, 11, 12, 13, 14, 15, 16, 17, 18, 19, 20, 21, 22, 23, 24, 25, 26, 27] (by decide +kernel) (by decide +kernel)
set_option maxRecDepth 20000 in
theorem gX7_heardOf_X7_isHeard : GoodIn wsX7_heardOf (wsV RX7 105 RX7 yX7_isHeard wsX7_isHeard) := goodIn_app (goodIn_of _ (by decide +kernel)) ggX7_heardOf_X7_isHeard
theorem dX7_heardOf_0 : decode cX7_heardOf 0 = .ok (.iconst 0, 1) := by decide +kernel
theorem dX7_heardOf_1 : decode cX7_heardOf 1 = .ok (.istore_n 2, 1) := by decide +kernel
theorem dX7_heardOf_2 : decode cX7_heardOf 2 = .ok (.iconst 1, 1) := by decide +kernel
theorem dX7_heardOf_3 : decode cX7_heardOf 3 = .ok (.istore_n 3, 1) := by decide +kernel
theorem dX7_heardOf_4 : decode cX7_heardOf 4 = .ok (.iload_n 3, 1) := by decide +kernel
theorem dX7_heardOf_5 : decode cX7_heardOf 5 = .ok (.bipush 12, 2) := by decide +kernel
theorem dX7_heardOf_7 : decode cX7_heardOf 7 = .ok (.if_icmp .gt 30, 3) := by decide +kernel
theorem dX7_heardOf_10 : decode cX7_heardOf 10 = .ok (.iload_n 2, 1) := by decide +kernel
theorem dX7_heardOf_11 : decode cX7_heardOf 11 = .ok (.aload_n 0, 1) := by decide +kernel
theorem dX7_heardOf_12 : decode cX7_heardOf 12 = .ok (.iload_n 1, 1) := by decide +kernel
theorem dX7_heardOf_13 : decode cX7_heardOf 13 = .ok (.iload_n 3, 1) := by decide +kernel
theorem dX7_heardOf_14 : decode cX7_heardOf 14 = .ok (.invokevirtual 105, 3) := by decide +kernel
theorem dX7_heardOf_17 : decode cX7_heardOf 17 = .ok (.ifCond .eq 11, 3) := by decide +kernel
theorem dX7_heardOf_20 : decode cX7_heardOf 20 = .ok (.iconst 1, 1) := by decide +kernel
theorem dX7_heardOf_21 : decode cX7_heardOf 21 = .ok (.iload_n 3, 1) := by decide +kernel
theorem dX7_heardOf_22 : decode cX7_heardOf 22 = .ok (.iconst 1, 1) := by decide +kernel
theorem dX7_heardOf_23 : decode cX7_heardOf 23 = .ok (.isub, 1) := by decide +kernel
theorem dX7_heardOf_24 : decode cX7_heardOf 24 = .ok (.ishl, 1) := by decide +kernel
theorem dX7_heardOf_25 : decode cX7_heardOf 25 = .ok (.goto 4, 3) := by decide +kernel
theorem dX7_heardOf_28 : decode cX7_heardOf 28 = .ok (.iconst 0, 1) := by decide +kernel
theorem dX7_heardOf_29 : decode cX7_heardOf 29 = .ok (.ior, 1) := by decide +kernel
theorem dX7_heardOf_30 : decode cX7_heardOf 30 = .ok (.istore_n 2, 1) := by decide +kernel
theorem dX7_heardOf_31 : decode cX7_heardOf 31 = .ok (.iinc 3 1, 3) := by decide +kernel
theorem dX7_heardOf_34 : decode cX7_heardOf 34 = .ok (.goto (-30), 3) := by decide +kernel
theorem dX7_heardOf_37 : decode cX7_heardOf 37 = .ok (.iload_n 2, 1) := by decide +kernel
theorem dX7_heardOf_38 : decode cX7_heardOf 38 = .ok (.ireturn, 1) := by decide +kernel
theorem dX7_bits_0 : decode cX7_bits 0 = .ok (.iconst 0, 1) := by decide +kernel
theorem dX7_bits_1 : decode cX7_bits 1 = .ok (.istore_n 1, 1) := by decide +kernel
theorem dX7_bits_2 : decode cX7_bits 2 = .ok (.iload_n 0, 1) := by decide +kernel
theorem dX7_bits_3 : decode cX7_bits 3 = .ok (.istore_n 2, 1) := by decide +kernel
theorem dX7_bits_4 : decode cX7_bits 4 = .ok (.iload_n 2, 1) := by decide +kernel
theorem dX7_bits_5 : decode cX7_bits 5 = .ok (.ifCond .eq 15, 3) := by decide +kernel
theorem dX7_bits_8 : decode cX7_bits 8 = .ok (.iinc 1 1, 3) := by decide +kernel
theorem dX7_bits_11 : decode cX7_bits 11 = .ok (.iload_n 2, 1) := by decide +kernel
theorem dX7_bits_12 : decode cX7_bits 12 = .ok (.iload_n 2, 1) := by decide +kernel
theorem dX7_bits_13 : decode cX7_bits 13 = .ok (.iconst 1, 1) := by decide +kernel
theorem dX7_bits_14 : decode cX7_bits 14 = .ok (.isub, 1) := by decide +kernel
theorem dX7_bits_15 : decode cX7_bits 15 = .ok (.iand, 1) := by decide +kernel
theorem dX7_bits_16 : decode cX7_bits 16 = .ok (.istore_n 2, 1) := by decide +kernel
theorem dX7_bits_17 : decode cX7_bits 17 = .ok (.goto (-13), 3) := by decide +kernel
theorem dX7_bits_20 : decode cX7_bits 20 = .ok (.iload_n 1, 1) := by decide +kernel
theorem dX7_bits_21 : decode cX7_bits 21 = .ok (.ireturn, 1) := by decide +kernel
theorem dX7_notes_0 : decode cX7_notes 0 = .ok (.iconst 0, 1) := by decide +kernel
theorem dX7_notes_1 : decode cX7_notes 1 = .ok (.istore_n 3, 1) := by decide +kernel
theorem dX7_notes_2 : decode cX7_notes 2 = .ok (.iload_n 3, 1) := by decide +kernel
theorem dX7_notes_3 : decode cX7_notes 3 = .ok (.aload_n 0, 1) := by decide +kernel
theorem dX7_notes_4 : decode cX7_notes 4 = .ok (.getfield 7, 3) := by decide +kernel
theorem dX7_notes_7 : decode cX7_notes 7 = .ok (.iconst 3, 1) := by decide +kernel
theorem dX7_notes_8 : decode cX7_notes 8 = .ok (.iaload, 1) := by decide +kernel
theorem dX7_notes_9 : decode cX7_notes 9 = .ok (.if_icmp .ge 41, 3) := by decide +kernel
theorem dX7_notes_12 : decode cX7_notes 12 = .ok (.aload_n 0, 1) := by decide +kernel
theorem dX7_notes_13 : decode cX7_notes 13 = .ok (.getfield 7, 3) := by decide +kernel
theorem dX7_notes_16 : decode cX7_notes 16 = .ok (.bipush 109, 2) := by decide +kernel
theorem dX7_notes_18 : decode cX7_notes 18 = .ok (.iconst 3, 1) := by decide +kernel
theorem dX7_notes_19 : decode cX7_notes 19 = .ok (.iload_n 3, 1) := by decide +kernel
theorem dX7_notes_20 : decode cX7_notes 20 = .ok (.imul, 1) := by decide +kernel
theorem dX7_notes_21 : decode cX7_notes 21 = .ok (.iadd, 1) := by decide +kernel
theorem dX7_notes_22 : decode cX7_notes 22 = .ok (.iaload, 1) := by decide +kernel
theorem dX7_notes_23 : decode cX7_notes 23 = .ok (.iload_n 1, 1) := by decide +kernel
theorem dX7_notes_24 : decode cX7_notes 24 = .ok (.if_icmp .ne 20, 3) := by decide +kernel
theorem dX7_notes_27 : decode cX7_notes 27 = .ok (.aload_n 0, 1) := by decide +kernel
theorem dX7_notes_28 : decode cX7_notes 28 = .ok (.getfield 7, 3) := by decide +kernel
theorem dX7_notes_31 : decode cX7_notes 31 = .ok (.bipush 109, 2) := by decide +kernel
theorem dX7_notes_33 : decode cX7_notes 33 = .ok (.iconst 3, 1) := by decide +kernel
theorem dX7_notes_34 : decode cX7_notes 34 = .ok (.iload_n 3, 1) := by decide +kernel
theorem dX7_notes_35 : decode cX7_notes 35 = .ok (.imul, 1) := by decide +kernel
theorem dX7_notes_36 : decode cX7_notes 36 = .ok (.iadd, 1) := by decide +kernel
theorem dX7_notes_37 : decode cX7_notes 37 = .ok (.iconst 1, 1) := by decide +kernel
theorem dX7_notes_38 : decode cX7_notes 38 = .ok (.iadd, 1) := by decide +kernel
theorem dX7_notes_39 : decode cX7_notes 39 = .ok (.iaload, 1) := by decide +kernel
theorem dX7_notes_40 : decode cX7_notes 40 = .ok (.iload_n 2, 1) := by decide +kernel
theorem dX7_notes_41 : decode cX7_notes 41 = .ok (.if_icmp .eq 9, 3) := by decide +kernel
theorem dX7_notes_44 : decode cX7_notes 44 = .ok (.iinc 3 1, 3) := by decide +kernel
theorem dX7_notes_47 : decode cX7_notes 47 = .ok (.goto (-45), 3) := by decide +kernel
theorem dX7_notes_50 : decode cX7_notes 50 = .ok (.iload_n 3, 1) := by decide +kernel
theorem dX7_notes_51 : decode cX7_notes 51 = .ok (.aload_n 0, 1) := by decide +kernel
theorem dX7_notes_52 : decode cX7_notes 52 = .ok (.getfield 7, 3) := by decide +kernel
theorem dX7_notes_55 : decode cX7_notes 55 = .ok (.iconst 3, 1) := by decide +kernel
theorem dX7_notes_56 : decode cX7_notes 56 = .ok (.iaload, 1) := by decide +kernel
theorem dX7_notes_57 : decode cX7_notes 57 = .ok (.if_icmp .ne 53, 3) := by decide +kernel
theorem dX7_notes_60 : decode cX7_notes 60 = .ok (.aload_n 0, 1) := by decide +kernel
theorem dX7_notes_61 : decode cX7_notes 61 = .ok (.getfield 7, 3) := by decide +kernel
theorem dX7_notes_64 : decode cX7_notes 64 = .ok (.bipush 109, 2) := by decide +kernel
theorem dX7_notes_66 : decode cX7_notes 66 = .ok (.iconst 3, 1) := by decide +kernel
theorem dX7_notes_67 : decode cX7_notes 67 = .ok (.iload_n 3, 1) := by decide +kernel
theorem dX7_notes_68 : decode cX7_notes 68 = .ok (.imul, 1) := by decide +kernel
theorem dX7_notes_69 : decode cX7_notes 69 = .ok (.iadd, 1) := by decide +kernel
theorem dX7_notes_70 : decode cX7_notes 70 = .ok (.iload_n 1, 1) := by decide +kernel
theorem dX7_notes_71 : decode cX7_notes 71 = .ok (.iastore, 1) := by decide +kernel
theorem dX7_notes_72 : decode cX7_notes 72 = .ok (.aload_n 0, 1) := by decide +kernel
theorem dX7_notes_73 : decode cX7_notes 73 = .ok (.getfield 7, 3) := by decide +kernel
theorem dX7_notes_76 : decode cX7_notes 76 = .ok (.bipush 109, 2) := by decide +kernel
theorem dX7_notes_78 : decode cX7_notes 78 = .ok (.iconst 3, 1) := by decide +kernel
theorem dX7_notes_79 : decode cX7_notes 79 = .ok (.iload_n 3, 1) := by decide +kernel
theorem dX7_notes_80 : decode cX7_notes 80 = .ok (.imul, 1) := by decide +kernel
theorem dX7_notes_81 : decode cX7_notes 81 = .ok (.iadd, 1) := by decide +kernel
theorem dX7_notes_82 : decode cX7_notes 82 = .ok (.iconst 1, 1) := by decide +kernel
theorem dX7_notes_83 : decode cX7_notes 83 = .ok (.iadd, 1) := by decide +kernel
theorem dX7_notes_84 : decode cX7_notes 84 = .ok (.iload_n 2, 1) := by decide +kernel
theorem dX7_notes_85 : decode cX7_notes 85 = .ok (.iastore, 1) := by decide +kernel
theorem dX7_notes_86 : decode cX7_notes 86 = .ok (.aload_n 0, 1) := by decide +kernel
theorem dX7_notes_87 : decode cX7_notes 87 = .ok (.getfield 7, 3) := by decide +kernel
theorem dX7_notes_90 : decode cX7_notes 90 = .ok (.bipush 109, 2) := by decide +kernel
theorem dX7_notes_92 : decode cX7_notes 92 = .ok (.iconst 3, 1) := by decide +kernel
theorem dX7_notes_93 : decode cX7_notes 93 = .ok (.iload_n 3, 1) := by decide +kernel
theorem dX7_notes_94 : decode cX7_notes 94 = .ok (.imul, 1) := by decide +kernel
theorem dX7_notes_95 : decode cX7_notes 95 = .ok (.iadd, 1) := by decide +kernel
theorem dX7_notes_96 : decode cX7_notes 96 = .ok (.iconst 2, 1) := by decide +kernel
theorem dX7_notes_97 : decode cX7_notes 97 = .ok (.iadd, 1) := by decide +kernel
theorem dX7_notes_98 : decode cX7_notes 98 = .ok (.iconst 0, 1) := by decide +kernel
theorem dX7_notes_99 : decode cX7_notes 99 = .ok (.iastore, 1) := by decide +kernel
theorem dX7_notes_100 : decode cX7_notes 100 = .ok (.aload_n 0, 1) := by decide +kernel
theorem dX7_notes_101 : decode cX7_notes 101 = .ok (.getfield 7, 3) := by decide +kernel
theorem dX7_notes_104 : decode cX7_notes 104 = .ok (.iconst 3, 1) := by decide +kernel
theorem dX7_notes_105 : decode cX7_notes 105 = .ok (.dup2, 1) := by decide +kernel
theorem dX7_notes_106 : decode cX7_notes 106 = .ok (.iaload, 1) := by decide +kernel
theorem dX7_notes_107 : decode cX7_notes 107 = .ok (.iconst 1, 1) := by decide +kernel
theorem dX7_notes_108 : decode cX7_notes 108 = .ok (.iadd, 1) := by decide +kernel
theorem dX7_notes_109 : decode cX7_notes 109 = .ok (.iastore, 1) := by decide +kernel
theorem dX7_notes_110 : decode cX7_notes 110 = .ok (.aload_n 0, 1) := by decide +kernel
theorem dX7_notes_111 : decode cX7_notes 111 = .ok (.getfield 7, 3) := by decide +kernel
theorem dX7_notes_114 : decode cX7_notes 114 = .ok (.bipush 109, 2) := by decide +kernel
theorem dX7_notes_116 : decode cX7_notes 116 = .ok (.iconst 3, 1) := by decide +kernel
theorem dX7_notes_117 : decode cX7_notes 117 = .ok (.iload_n 3, 1) := by decide +kernel
theorem dX7_notes_118 : decode cX7_notes 118 = .ok (.imul, 1) := by decide +kernel
theorem dX7_notes_119 : decode cX7_notes 119 = .ok (.iadd, 1) := by decide +kernel
theorem dX7_notes_120 : decode cX7_notes 120 = .ok (.iconst 2, 1) := by decide +kernel
theorem dX7_notes_121 : decode cX7_notes 121 = .ok (.iadd, 1) := by decide +kernel
theorem dX7_notes_122 : decode cX7_notes 122 = .ok (.dup2, 1) := by decide +kernel
theorem dX7_notes_123 : decode cX7_notes 123 = .ok (.iaload, 1) := by decide +kernel
theorem dX7_notes_124 : decode cX7_notes 124 = .ok (.iconst 1, 1) := by decide +kernel
theorem dX7_notes_125 : decode cX7_notes 125 = .ok (.iadd, 1) := by decide +kernel
theorem dX7_notes_126 : decode cX7_notes 126 = .ok (.iastore, 1) := by decide +kernel
theorem dX7_notes_127 : decode cX7_notes 127 = .ok (.return_, 1) := by decide +kernel
set_option maxRecDepth 20000 in
theorem ggX7_wears_X7_on : GoodIn wsX7_wears wsX7_on := goodIn_r _ [6, 1, 15, 16, 17, 18, 19, 20, 21, 22, 23, 24, 25, 26, 27] (by decide +kernel) (by decide +kernel)
set_option maxRecDepth 20000 in
theorem gX7_wears_X7_on : GoodIn wsX7_wears (wsV RX7 38 RX7 yX7_on wsX7_on) := goodIn_app (goodIn_of _ (by decide +kernel)) ggX7_wears_X7_on
set_option maxRecDepth 20000 in
theorem ggX7_wears_X7_lays : GoodIn wsX7_wears wsX7_lays := goodIn_r _ [10, 1, 15, 16, 17, 18, 19, 20, 21, 22, 23, 24, 25, 26, 27] (by decide +kernel) (by decide +kernel)
set_option maxRecDepth 20000 in
theorem gX7_wears_X7_lays : GoodIn wsX7_wears (wsV RX7 75 RX7 yX7_lays wsX7_lays) := goodIn_app (goodIn_of _ (by decide +kernel)) ggX7_wears_X7_lays
set_option maxRecDepth 20000 in
theorem ggX7_wears_X7_setting : GoodIn wsX7_wears wsX7_setting := goodIn_r _ [14, 1, 15, 16, 17, 18, 19, 20, 21, 22, 23, 24, 25, 26, 27] (by decide +kernel) (by decide +kernel)
set_option maxRecDepth 20000 in
theorem gX7_wears_X7_setting : GoodIn wsX7_wears (wsV RX7 102 RX7 yX7_setting wsX7_setting) := goodIn_app (goodIn_of _ (by decide +kernel)) ggX7_wears_X7_setting
theorem dX7_wears_0 : decode cX7_wears 0 = .ok (.aload_n 0, 1) := by decide +kernel
theorem dX7_wears_1 : decode cX7_wears 1 = .ok (.iload_n 1, 1) := by decide +kernel
theorem dX7_wears_2 : decode cX7_wears 2 = .ok (.iconst 2, 1) := by decide +kernel
theorem dX7_wears_3 : decode cX7_wears 3 = .ok (.aload_n 0, 1) := by decide +kernel
theorem dX7_wears_4 : decode cX7_wears 4 = .ok (.iload_n 1, 1) := by decide +kernel
theorem dX7_wears_5 : decode cX7_wears 5 = .ok (.iconst 2, 1) := by decide +kernel
theorem dX7_wears_6 : decode cX7_wears 6 = .ok (.invokevirtual 38, 3) := by decide +kernel
theorem dX7_wears_9 : decode cX7_wears 9 = .ok (.iload_n 2, 1) := by decide +kernel
theorem dX7_wears_10 : decode cX7_wears 10 = .ok (.iadd, 1) := by decide +kernel
theorem dX7_wears_11 : decode cX7_wears 11 = .ok (.invokevirtual 75, 3) := by decide +kernel
theorem dX7_wears_14 : decode cX7_wears 14 = .ok (.aload_n 0, 1) := by decide +kernel
theorem dX7_wears_15 : decode cX7_wears 15 = .ok (.iload_n 1, 1) := by decide +kernel
theorem dX7_wears_16 : decode cX7_wears 16 = .ok (.iconst 2, 1) := by decide +kernel
theorem dX7_wears_17 : decode cX7_wears 17 = .ok (.invokevirtual 38, 3) := by decide +kernel
theorem dX7_wears_20 : decode cX7_wears 20 = .ok (.aload_n 0, 1) := by decide +kernel
theorem dX7_wears_21 : decode cX7_wears 21 = .ok (.iconst 3, 1) := by decide +kernel
theorem dX7_wears_22 : decode cX7_wears 22 = .ok (.invokevirtual 102, 3) := by decide +kernel
theorem dX7_wears_25 : decode cX7_wears 25 = .ok (.if_icmp .lt 57, 3) := by decide +kernel
theorem dX7_wears_28 : decode cX7_wears 28 = .ok (.aload_n 0, 1) := by decide +kernel
theorem dX7_wears_29 : decode cX7_wears 29 = .ok (.iload_n 1, 1) := by decide +kernel
theorem dX7_wears_30 : decode cX7_wears 30 = .ok (.iconst 1, 1) := by decide +kernel
theorem dX7_wears_31 : decode cX7_wears 31 = .ok (.invokevirtual 38, 3) := by decide +kernel
theorem dX7_wears_34 : decode cX7_wears 34 = .ok (.ifCond .le 48, 3) := by decide +kernel
theorem dX7_wears_37 : decode cX7_wears 37 = .ok (.aload_n 0, 1) := by decide +kernel
theorem dX7_wears_38 : decode cX7_wears 38 = .ok (.iload_n 1, 1) := by decide +kernel
theorem dX7_wears_39 : decode cX7_wears 39 = .ok (.iconst 2, 1) := by decide +kernel
theorem dX7_wears_40 : decode cX7_wears 40 = .ok (.aload_n 0, 1) := by decide +kernel
theorem dX7_wears_41 : decode cX7_wears 41 = .ok (.iload_n 1, 1) := by decide +kernel
theorem dX7_wears_42 : decode cX7_wears 42 = .ok (.iconst 2, 1) := by decide +kernel
theorem dX7_wears_43 : decode cX7_wears 43 = .ok (.invokevirtual 38, 3) := by decide +kernel
theorem dX7_wears_46 : decode cX7_wears 46 = .ok (.aload_n 0, 1) := by decide +kernel
theorem dX7_wears_47 : decode cX7_wears 47 = .ok (.iconst 3, 1) := by decide +kernel
theorem dX7_wears_48 : decode cX7_wears 48 = .ok (.invokevirtual 102, 3) := by decide +kernel
theorem dX7_wears_51 : decode cX7_wears 51 = .ok (.isub, 1) := by decide +kernel
theorem dX7_wears_52 : decode cX7_wears 52 = .ok (.invokevirtual 75, 3) := by decide +kernel
theorem dX7_wears_55 : decode cX7_wears 55 = .ok (.aload_n 0, 1) := by decide +kernel
theorem dX7_wears_56 : decode cX7_wears 56 = .ok (.iload_n 1, 1) := by decide +kernel
theorem dX7_wears_57 : decode cX7_wears 57 = .ok (.iconst 1, 1) := by decide +kernel
theorem dX7_wears_58 : decode cX7_wears 58 = .ok (.aload_n 0, 1) := by decide +kernel
theorem dX7_wears_59 : decode cX7_wears 59 = .ok (.iload_n 1, 1) := by decide +kernel
theorem dX7_wears_60 : decode cX7_wears 60 = .ok (.iconst 1, 1) := by decide +kernel
theorem dX7_wears_61 : decode cX7_wears 61 = .ok (.invokevirtual 38, 3) := by decide +kernel
theorem dX7_wears_64 : decode cX7_wears 64 = .ok (.iconst 1, 1) := by decide +kernel
theorem dX7_wears_65 : decode cX7_wears 65 = .ok (.isub, 1) := by decide +kernel
theorem dX7_wears_66 : decode cX7_wears 66 = .ok (.invokevirtual 75, 3) := by decide +kernel
theorem dX7_wears_69 : decode cX7_wears 69 = .ok (.aload_n 0, 1) := by decide +kernel
theorem dX7_wears_70 : decode cX7_wears 70 = .ok (.getfield 7, 3) := by decide +kernel
theorem dX7_wears_73 : decode cX7_wears 73 = .ok (.iconst 2, 1) := by decide +kernel
theorem dX7_wears_74 : decode cX7_wears 74 = .ok (.dup2, 1) := by decide +kernel
theorem dX7_wears_75 : decode cX7_wears 75 = .ok (.iaload, 1) := by decide +kernel
theorem dX7_wears_76 : decode cX7_wears 76 = .ok (.iconst 1, 1) := by decide +kernel
theorem dX7_wears_77 : decode cX7_wears 77 = .ok (.iadd, 1) := by decide +kernel
theorem dX7_wears_78 : decode cX7_wears 78 = .ok (.iastore, 1) := by decide +kernel
theorem dX7_wears_79 : decode cX7_wears 79 = .ok (.goto (-65), 3) := by decide +kernel
theorem dX7_wears_82 : decode cX7_wears 82 = .ok (.return_, 1) := by decide +kernel
set_option maxRecDepth 20000 in
theorem ggX7_plucks_X7_lengthOf : GoodIn wsX7_plucks wsX7_lengthOf := goodIn_r _ [7, 8, 9, 10, 6, 11, 12, 13, 14, 15, 16, 17, 18, 19, 1, 20, 21, 22, 23, 24, 25, 26, 27, 28, 29, 30, 31, 32, 33, 34, 72, 73, 74, 75, 76, 77, 78, 79, 80, 81, 82, 83, 84] (by decide +kernel) (by decide +kernel)
set_option maxRecDepth 20000 in
theorem gX7_plucks_X7_lengthOf : GoodIn wsX7_plucks (wsV RX7 96 RX7 yX7_lengthOf wsX7_lengthOf) := goodIn_app (goodIn_of _ (by decide +kernel)) ggX7_plucks_X7_lengthOf
set_option maxRecDepth 20000 in
theorem ggX7_plucks_X7_positionOf : GoodIn wsX7_plucks wsX7_positionOf := goodIn_r _ [11, 12, 13, 14, 6, 15, 16, 17, 18, 19, 1, 20, 21, 22, 23, 24, 25, 26, 27, 28, 29, 30, 31, 32, 33, 34, 72, 73, 74, 75, 76, 77, 78, 79, 80, 81, 82, 83, 84] (by decide +kernel) (by decide +kernel)
set_option maxRecDepth 20000 in
theorem gX7_plucks_X7_positionOf : GoodIn wsX7_plucks (wsV RX7 58 RX7 yX7_positionOf wsX7_positionOf) := goodIn_app (goodIn_of _ (by decide +kernel)) ggX7_plucks_X7_positionOf
set_option maxRecDepth 20000 in
theorem ggX7_plucks_X7_loud : GoodIn wsX7_plucks wsX7_loud := goodIn_r _ [38, 1, 72, 73, 74, 75, 76, 77, 78, 79, 80, 81, 82, 83, 84] (by decide +kernel) (by decide +kernel)
set_option maxRecDepth 20000 in
theorem gX7_plucks_X7_loud : GoodIn wsX7_plucks (wsV RX7 99 RX7 yX7_loud wsX7_loud) := goodIn_app (goodIn_of _ (by decide +kernel)) ggX7_plucks_X7_loud
set_option maxRecDepth 20000 in
theorem ggX7_plucks_X7_of : GoodIn wsX7_plucks wsX7_of := goodIn_r _ [19, 1, 72, 73, 74, 75, 76, 77, 78, 79, 80, 81, 82, 83, 84] (by decide +kernel) (by decide +kernel)
set_option maxRecDepth 20000 in
theorem gX7_plucks_X7_of : GoodIn wsX7_plucks (wsV RX7 48 RX7 yX7_of wsX7_of) := goodIn_app (goodIn_of _ (by decide +kernel)) ggX7_plucks_X7_of
set_option maxRecDepth 20000 in
theorem ggX7_plucks_X7_puts : GoodIn wsX7_plucks wsX7_puts := goodIn_r _ [42, 1, 72, 73, 74, 75, 76, 77, 78, 79, 80, 81, 82, 83, 84] (by decide +kernel) (by decide +kernel)
set_option maxRecDepth 20000 in
theorem gX7_plucks_X7_puts : GoodIn wsX7_plucks (wsV RX7 23 RX7 yX7_puts wsX7_puts) := goodIn_app (goodIn_of _ (by decide +kernel)) ggX7_plucks_X7_puts
set_option maxRecDepth 20000 in
theorem ggX7_plucks_X7_notes : GoodIn wsX7_plucks wsX7_notes := goodIn_r _ [46, 1, 72, 73, 74, 75, 76, 77, 78, 79, 80, 81, 82, 83, 84] (by decide +kernel) (by decide +kernel)
set_option maxRecDepth 20000 in
theorem gX7_plucks_X7_notes : GoodIn wsX7_plucks (wsV RX7 109 RX7 yX7_notes wsX7_notes) := goodIn_app (goodIn_of _ (by decide +kernel)) ggX7_plucks_X7_notes
set_option maxRecDepth 20000 in
theorem ggX7_plucks_X7_sounds : GoodIn wsX7_plucks wsX7_sounds := goodIn_r _ [15, 16, 17, 18, 6, 19, 1, 20, 21, 22, 23, 24, 25, 26, 27, 28, 29, 30, 31, 32, 33, 34, 72, 73, 74, 75, 76, 77, 78, 79, 80, 81, 82, 83, 84] (by decide +kernel) (by decide +kernel)
set_option maxRecDepth 20000 in
theorem gX7_plucks_X7_sounds : GoodIn wsX7_plucks (wsV RX7 55 RX7 yX7_sounds wsX7_sounds) := goodIn_app (goodIn_of _ (by decide +kernel)) ggX7_plucks_X7_sounds
set_option maxRecDepth 20000 in
theorem ggX7_plucks_X7_stands : GoodIn wsX7_plucks wsX7_stands := goodIn_r _ [50, 51, 8, 9, 10, 6, 11, 12, 13, 14, 15, 16, 17, 18, 19, 1, 20, 21, 22, 23, 24, 25, 26, 27, 28, 29, 30, 31, 32, 33, 34, 72, 73, 74, 75, 76, 77, 78, 79, 80, 81, 82, 83, 84] (by decide +kernel) (by decide +kernel)
set_option maxRecDepth 20000 in
theorem gX7_plucks_X7_stands : GoodIn wsX7_plucks (wsV RX7 72 RX7 yX7_stands wsX7_stands) := goodIn_app (goodIn_of _ (by decide +kernel)) ggX7_plucks_X7_stands
set_option maxRecDepth 20000 in
theorem ggX7_plucks_X7_wears : GoodIn wsX7_plucks wsX7_wears := goodIn_r _ [55, 1, 24, 25, 26, 6, 27, 56, 57, 58, 59, 60, 61, 62, 63, 72, 73, 74, 75, 76, 77, 78, 79, 80, 81, 82, 83, 84] (by decide +kernel) (by decide +kernel)
set_option maxRecDepth 20000 in
theorem gX7_plucks_X7_wears : GoodIn wsX7_plucks (wsV RX7 112 RX7 yX7_wears wsX7_wears) := goodIn_app (goodIn_of _ (by decide +kernel)) ggX7_plucks_X7_wears
set_option maxRecDepth 20000 in
theorem ggX7_plucks_X7_moved : GoodIn wsX7_plucks wsX7_moved := goodIn_r _ [67, 51, 8, 9, 10, 6, 11, 12, 13, 14, 15, 16, 17, 18, 19, 1, 20, 21, 22, 23, 24, 25, 26, 27, 28, 29, 30, 31, 32, 33, 34, 68, 69, 70, 71, 72, 73, 74, 75, 76, 77, 78, 79, 80, 81, 82, 83, 84] (by decide +kernel) (by decide +kernel)
set_option maxRecDepth 20000 in
theorem gX7_plucks_X7_moved : GoodIn wsX7_plucks (wsV RX7 78 RX7 yX7_moved wsX7_moved) := goodIn_app (goodIn_of _ (by decide +kernel)) ggX7_plucks_X7_moved
theorem dX7_plucks_0 : decode cX7_plucks 0 = .ok (.aload_n 0, 1) := by decide +kernel
theorem dX7_plucks_1 : decode cX7_plucks 1 = .ok (.iload_n 1, 1) := by decide +kernel
theorem dX7_plucks_2 : decode cX7_plucks 2 = .ok (.invokevirtual 96, 3) := by decide +kernel
theorem dX7_plucks_5 : decode cX7_plucks 5 = .ok (.istore 4, 2) := by decide +kernel
theorem dX7_plucks_7 : decode cX7_plucks 7 = .ok (.iload_n 2, 1) := by decide +kernel
theorem dX7_plucks_8 : decode cX7_plucks 8 = .ok (.aload_n 0, 1) := by decide +kernel
theorem dX7_plucks_9 : decode cX7_plucks 9 = .ok (.iload_n 1, 1) := by decide +kernel
theorem dX7_plucks_10 : decode cX7_plucks 10 = .ok (.invokevirtual 58, 3) := by decide +kernel
theorem dX7_plucks_13 : decode cX7_plucks 13 = .ok (.isub, 1) := by decide +kernel
theorem dX7_plucks_14 : decode cX7_plucks 14 = .ok (.istore 5, 2) := by decide +kernel
theorem dX7_plucks_16 : decode cX7_plucks 16 = .ok (.iconst 1, 1) := by decide +kernel
theorem dX7_plucks_17 : decode cX7_plucks 17 = .ok (.istore 6, 2) := by decide +kernel
theorem dX7_plucks_19 : decode cX7_plucks 19 = .ok (.iload 6, 2) := by decide +kernel
theorem dX7_plucks_21 : decode cX7_plucks 21 = .ok (.bipush 12, 2) := by decide +kernel
theorem dX7_plucks_23 : decode cX7_plucks 23 = .ok (.if_icmp .gt 96, 3) := by decide +kernel
theorem dX7_plucks_26 : decode cX7_plucks 26 = .ok (.iload 6, 2) := by decide +kernel
theorem dX7_plucks_28 : decode cX7_plucks 28 = .ok (.iload 5, 2) := by decide +kernel
theorem dX7_plucks_30 : decode cX7_plucks 30 = .ok (.imul, 1) := by decide +kernel
theorem dX7_plucks_31 : decode cX7_plucks 31 = .ok (.iload 4, 2) := by decide +kernel
theorem dX7_plucks_33 : decode cX7_plucks 33 = .ok (.irem, 1) := by decide +kernel
theorem dX7_plucks_34 : decode cX7_plucks 34 = .ok (.istore 7, 2) := by decide +kernel
theorem dX7_plucks_36 : decode cX7_plucks 36 = .ok (.iload 7, 2) := by decide +kernel
theorem dX7_plucks_38 : decode cX7_plucks 38 = .ok (.iload 4, 2) := by decide +kernel
theorem dX7_plucks_40 : decode cX7_plucks 40 = .ok (.iload 7, 2) := by decide +kernel
theorem dX7_plucks_42 : decode cX7_plucks 42 = .ok (.isub, 1) := by decide +kernel
theorem dX7_plucks_43 : decode cX7_plucks 43 = .ok (.if_icmp .ge 8, 3) := by decide +kernel
theorem dX7_plucks_46 : decode cX7_plucks 46 = .ok (.iload 7, 2) := by decide +kernel
theorem dX7_plucks_48 : decode cX7_plucks 48 = .ok (.goto 8, 3) := by decide +kernel
theorem dX7_plucks_51 : decode cX7_plucks 51 = .ok (.iload 4, 2) := by decide +kernel
theorem dX7_plucks_53 : decode cX7_plucks 53 = .ok (.iload 7, 2) := by decide +kernel
theorem dX7_plucks_55 : decode cX7_plucks 55 = .ok (.isub, 1) := by decide +kernel
theorem dX7_plucks_56 : decode cX7_plucks 56 = .ok (.istore 8, 2) := by decide +kernel
theorem dX7_plucks_58 : decode cX7_plucks 58 = .ok (.aload_n 0, 1) := by decide +kernel
theorem dX7_plucks_59 : decode cX7_plucks 59 = .ok (.iload_n 1, 1) := by decide +kernel
theorem dX7_plucks_60 : decode cX7_plucks 60 = .ok (.iload 6, 2) := by decide +kernel
theorem dX7_plucks_62 : decode cX7_plucks 62 = .ok (.invokevirtual 99, 3) := by decide +kernel
theorem dX7_plucks_65 : decode cX7_plucks 65 = .ok (.iload_n 3, 1) := by decide +kernel
theorem dX7_plucks_66 : decode cX7_plucks 66 = .ok (.iload 8, 2) := by decide +kernel
theorem dX7_plucks_68 : decode cX7_plucks 68 = .ok (.imul, 1) := by decide +kernel
theorem dX7_plucks_69 : decode cX7_plucks 69 = .ok (.sipush 1000, 3) := by decide +kernel
theorem dX7_plucks_72 : decode cX7_plucks 72 = .ok (.imul, 1) := by decide +kernel
theorem dX7_plucks_73 : decode cX7_plucks 73 = .ok (.iload 4, 2) := by decide +kernel
theorem dX7_plucks_75 : decode cX7_plucks 75 = .ok (.iload 6, 2) := by decide +kernel
theorem dX7_plucks_77 : decode cX7_plucks 77 = .ok (.imul, 1) := by decide +kernel
theorem dX7_plucks_78 : decode cX7_plucks 78 = .ok (.idiv, 1) := by decide +kernel
theorem dX7_plucks_79 : decode cX7_plucks 79 = .ok (.iadd, 1) := by decide +kernel
theorem dX7_plucks_80 : decode cX7_plucks 80 = .ok (.istore 9, 2) := by decide +kernel
theorem dX7_plucks_82 : decode cX7_plucks 82 = .ok (.aload_n 0, 1) := by decide +kernel
theorem dX7_plucks_83 : decode cX7_plucks 83 = .ok (.getfield 7, 3) := by decide +kernel
theorem dX7_plucks_86 : decode cX7_plucks 86 = .ok (.bipush 61, 2) := by decide +kernel
theorem dX7_plucks_88 : decode cX7_plucks 88 = .ok (.bipush 12, 2) := by decide +kernel
theorem dX7_plucks_90 : decode cX7_plucks 90 = .ok (.iload_n 1, 1) := by decide +kernel
theorem dX7_plucks_91 : decode cX7_plucks 91 = .ok (.imul, 1) := by decide +kernel
theorem dX7_plucks_92 : decode cX7_plucks 92 = .ok (.iadd, 1) := by decide +kernel
theorem dX7_plucks_93 : decode cX7_plucks 93 = .ok (.iload 6, 2) := by decide +kernel
theorem dX7_plucks_95 : decode cX7_plucks 95 = .ok (.iadd, 1) := by decide +kernel
theorem dX7_plucks_96 : decode cX7_plucks 96 = .ok (.iconst 1, 1) := by decide +kernel
theorem dX7_plucks_97 : decode cX7_plucks 97 = .ok (.isub, 1) := by decide +kernel
theorem dX7_plucks_98 : decode cX7_plucks 98 = .ok (.iload 9, 2) := by decide +kernel
theorem dX7_plucks_100 : decode cX7_plucks 100 = .ok (.ldc 22, 2) := by decide +kernel
theorem dX7_plucks_102 : decode cX7_plucks 102 = .ok (.if_icmp .ge 8, 3) := by decide +kernel
theorem dX7_plucks_105 : decode cX7_plucks 105 = .ok (.iload 9, 2) := by decide +kernel
theorem dX7_plucks_107 : decode cX7_plucks 107 = .ok (.goto 5, 3) := by decide +kernel
theorem dX7_plucks_110 : decode cX7_plucks 110 = .ok (.ldc 22, 2) := by decide +kernel
theorem dX7_plucks_112 : decode cX7_plucks 112 = .ok (.iastore, 1) := by decide +kernel
theorem dX7_plucks_113 : decode cX7_plucks 113 = .ok (.iinc 6 1, 3) := by decide +kernel
theorem dX7_plucks_116 : decode cX7_plucks 116 = .ok (.goto (-97), 3) := by decide +kernel
theorem dX7_plucks_119 : decode cX7_plucks 119 = .ok (.aload_n 0, 1) := by decide +kernel
theorem dX7_plucks_120 : decode cX7_plucks 120 = .ok (.iload_n 1, 1) := by decide +kernel
theorem dX7_plucks_121 : decode cX7_plucks 121 = .ok (.iconst 3, 1) := by decide +kernel
theorem dX7_plucks_122 : decode cX7_plucks 122 = .ok (.aload_n 0, 1) := by decide +kernel
theorem dX7_plucks_123 : decode cX7_plucks 123 = .ok (.iload_n 1, 1) := by decide +kernel
theorem dX7_plucks_124 : decode cX7_plucks 124 = .ok (.iconst 3, 1) := by decide +kernel
theorem dX7_plucks_125 : decode cX7_plucks 125 = .ok (.invokevirtual 48, 3) := by decide +kernel
theorem dX7_plucks_128 : decode cX7_plucks 128 = .ok (.iconst 1, 1) := by decide +kernel
theorem dX7_plucks_129 : decode cX7_plucks 129 = .ok (.iadd, 1) := by decide +kernel
theorem dX7_plucks_130 : decode cX7_plucks 130 = .ok (.invokevirtual 23, 3) := by decide +kernel
theorem dX7_plucks_133 : decode cX7_plucks 133 = .ok (.aload_n 0, 1) := by decide +kernel
theorem dX7_plucks_134 : decode cX7_plucks 134 = .ok (.iload_n 1, 1) := by decide +kernel
theorem dX7_plucks_135 : decode cX7_plucks 135 = .ok (.aload_n 0, 1) := by decide +kernel
theorem dX7_plucks_136 : decode cX7_plucks 136 = .ok (.iload_n 1, 1) := by decide +kernel
theorem dX7_plucks_137 : decode cX7_plucks 137 = .ok (.iconst 1, 1) := by decide +kernel
theorem dX7_plucks_138 : decode cX7_plucks 138 = .ok (.invokevirtual 48, 3) := by decide +kernel
theorem dX7_plucks_141 : decode cX7_plucks 141 = .ok (.invokevirtual 109, 3) := by decide +kernel
theorem dX7_plucks_144 : decode cX7_plucks 144 = .ok (.aload_n 0, 1) := by decide +kernel
theorem dX7_plucks_145 : decode cX7_plucks 145 = .ok (.iload_n 1, 1) := by decide +kernel
theorem dX7_plucks_146 : decode cX7_plucks 146 = .ok (.invokevirtual 55, 3) := by decide +kernel
theorem dX7_plucks_149 : decode cX7_plucks 149 = .ok (.istore 6, 2) := by decide +kernel
theorem dX7_plucks_151 : decode cX7_plucks 151 = .ok (.iload 6, 2) := by decide +kernel
theorem dX7_plucks_153 : decode cX7_plucks 153 = .ok (.ifCond .le 40, 3) := by decide +kernel
theorem dX7_plucks_156 : decode cX7_plucks 156 = .ok (.aload_n 0, 1) := by decide +kernel
theorem dX7_plucks_157 : decode cX7_plucks 157 = .ok (.invokevirtual 72, 3) := by decide +kernel
theorem dX7_plucks_160 : decode cX7_plucks 160 = .ok (.aload_n 0, 1) := by decide +kernel
theorem dX7_plucks_161 : decode cX7_plucks 161 = .ok (.iload_n 1, 1) := by decide +kernel
theorem dX7_plucks_162 : decode cX7_plucks 162 = .ok (.iconst 1, 1) := by decide +kernel
theorem dX7_plucks_163 : decode cX7_plucks 163 = .ok (.invokevirtual 48, 3) := by decide +kernel
theorem dX7_plucks_166 : decode cX7_plucks 166 = .ok (.istore 7, 2) := by decide +kernel
theorem dX7_plucks_168 : decode cX7_plucks 168 = .ok (.aload_n 0, 1) := by decide +kernel
theorem dX7_plucks_169 : decode cX7_plucks 169 = .ok (.iload 6, 2) := by decide +kernel
theorem dX7_plucks_171 : decode cX7_plucks 171 = .ok (.iload_n 3, 1) := by decide +kernel
theorem dX7_plucks_172 : decode cX7_plucks 172 = .ok (.invokevirtual 112, 3) := by decide +kernel
theorem dX7_plucks_175 : decode cX7_plucks 175 = .ok (.iload 7, 2) := by decide +kernel
theorem dX7_plucks_177 : decode cX7_plucks 177 = .ok (.iload 6, 2) := by decide +kernel
theorem dX7_plucks_179 : decode cX7_plucks 179 = .ok (.if_icmp .eq 10, 3) := by decide +kernel
theorem dX7_plucks_182 : decode cX7_plucks 182 = .ok (.aload_n 0, 1) := by decide +kernel
theorem dX7_plucks_183 : decode cX7_plucks 183 = .ok (.iload 7, 2) := by decide +kernel
theorem dX7_plucks_185 : decode cX7_plucks 185 = .ok (.iload_n 3, 1) := by decide +kernel
theorem dX7_plucks_186 : decode cX7_plucks 186 = .ok (.invokevirtual 112, 3) := by decide +kernel
theorem dX7_plucks_189 : decode cX7_plucks 189 = .ok (.aload_n 0, 1) := by decide +kernel
theorem dX7_plucks_190 : decode cX7_plucks 190 = .ok (.invokevirtual 78, 3) := by decide +kernel
theorem dX7_plucks_193 : decode cX7_plucks 193 = .ok (.return_, 1) := by decide +kernel
set_option maxRecDepth 20000 in
theorem ggX7_pluck_X7_isString : GoodIn wsX7_pluck wsX7_isString := goodIn_r _ [4, 5, 6, 3, 7] (by decide +kernel) (by decide +kernel)
set_option maxRecDepth 20000 in
theorem gX7_pluck_X7_isString : GoodIn wsX7_pluck (va_wsS RX7 88 yX7_isString wsX7_isString) := goodIn_app (goodIn_of _ (by decide +kernel)) ggX7_pluck_X7_isString
set_option maxRecDepth 20000 in
theorem ggX7_pluck_X7_in : GoodIn wsX7_pluck wsX7_in := goodIn_r _ [7] (by decide +kernel) (by decide +kernel)
set_option maxRecDepth 20000 in
theorem gX7_pluck_X7_in : GoodIn wsX7_pluck (va_wsS RX7 30 yX7_in wsX7_in) := goodIn_app (goodIn_of _ (by decide +kernel)) ggX7_pluck_X7_in
set_option maxRecDepth 20000 in
theorem ggX7_pluck_X7_positionOf : GoodIn wsX7_pluck wsX7_positionOf := goodIn_r _ [11, 12, 13, 14, 3, 15, 16, 17, 18, 19, 20, 21, 22, 23, 24, 25, 26, 27, 28, 29, 30, 31, 32, 33, 34, 35, 99, 100, 101, 102, 103, 104, 105, 106, 107, 108, 109, 110, 111] (by decide +kernel) (by decide +kernel)
set_option maxRecDepth 20000 in
theorem gX7_pluck_X7_positionOf : GoodIn wsX7_pluck (wsV RX7 58 RX7 yX7_positionOf wsX7_positionOf) := goodIn_app (goodIn_of _ (by decide +kernel)) ggX7_pluck_X7_positionOf
set_option maxRecDepth 20000 in
theorem ggX7_pluck_X7_records : GoodIn wsX7_pluck wsX7_records := goodIn_r _ [39, 40, 41, 20, 99, 100, 101, 102, 103, 104, 105, 106, 107, 108, 109, 110, 111] (by decide +kernel) (by decide +kernel)
set_option maxRecDepth 20000 in
theorem gX7_pluck_X7_records : GoodIn wsX7_pluck (wsV RX7 69 RX7 yX7_records wsX7_records) := goodIn_app (goodIn_of _ (by decide +kernel)) ggX7_pluck_X7_records
set_option maxRecDepth 20000 in
theorem ggX7_pluck_X7_plucks : GoodIn wsX7_pluck wsX7_plucks := goodIn_r _ [45, 20, 46, 47, 48, 49, 3, 50, 8, 9, 10, 11, 12, 13, 14, 15, 16, 17, 18, 19, 21, 22, 23, 24, 25, 26, 27, 28, 29, 30, 31, 32, 33, 34, 35, 51, 52, 53, 54, 55, 56, 57, 58, 59, 60, 61, 62, 63, 64, 65, 66, 67, 68, 69, 70, 71, 72, 73, 74, 75, 76, 77, 78, 79, 80, 81, 82, 83, 84, 85, 86, 87, 99, 100, 101, 102, 103, 104, 105, 106, 107, 108, 109, 110, 111] (by decide +kernel) (by decide +kernel)
set_option maxRecDepth 20000 in
theorem gX7_pluck_X7_plucks : GoodIn wsX7_pluck (wsV RX7 115 RX7 yX7_plucks wsX7_plucks) := goodIn_app (goodIn_of _ (by decide +kernel)) ggX7_pluck_X7_plucks
set_option maxRecDepth 20000 in
theorem ggX7_pluck_X7_heardOf : GoodIn wsX7_pluck wsX7_heardOf := goodIn_r _ [91, 92, 93, 94, 3, 95, 51, 52, 53, 54, 20, 76, 77, 78, 79, 99, 100, 101, 102, 103, 104, 105, 106, 107, 108, 109, 110, 111] (by decide +kernel) (by decide +kernel)
set_option maxRecDepth 20000 in
theorem gX7_pluck_X7_heardOf : GoodIn wsX7_pluck (wsV RX7 118 RX7 yX7_heardOf wsX7_heardOf) := goodIn_app (goodIn_of _ (by decide +kernel)) ggX7_pluck_X7_heardOf
set_option maxRecDepth 20000 in
theorem ggX7_pluck_X7_bits : GoodIn wsX7_pluck wsX7_bits := goodIn_r _ [98] (by decide +kernel) (by decide +kernel)
set_option maxRecDepth 20000 in
theorem gX7_pluck_X7_bits : GoodIn wsX7_pluck (va_wsS RX7 121 yX7_bits wsX7_bits) := goodIn_app (goodIn_of _ (by decide +kernel)) ggX7_pluck_X7_bits
theorem dX7_pluck_0 : decode cX7_pluck 0 = .ok (.iload_n 1, 1) := by decide +kernel
theorem dX7_pluck_1 : decode cX7_pluck 1 = .ok (.invokestatic 88, 3) := by decide +kernel
theorem dX7_pluck_4 : decode cX7_pluck 4 = .ok (.ifCond .eq 25, 3) := by decide +kernel
theorem dX7_pluck_7 : decode cX7_pluck 7 = .ok (.iload_n 2, 1) := by decide +kernel
theorem dX7_pluck_8 : decode cX7_pluck 8 = .ok (.iconst 1, 1) := by decide +kernel
theorem dX7_pluck_9 : decode cX7_pluck 9 = .ok (.sipush 2519, 3) := by decide +kernel
theorem dX7_pluck_12 : decode cX7_pluck 12 = .ok (.invokestatic 30, 3) := by decide +kernel
theorem dX7_pluck_15 : decode cX7_pluck 15 = .ok (.ifCond .eq 14, 3) := by decide +kernel
theorem dX7_pluck_18 : decode cX7_pluck 18 = .ok (.iload_n 3, 1) := by decide +kernel
theorem dX7_pluck_19 : decode cX7_pluck 19 = .ok (.iconst 1, 1) := by decide +kernel
theorem dX7_pluck_20 : decode cX7_pluck 20 = .ok (.sipush 1000, 3) := by decide +kernel
theorem dX7_pluck_23 : decode cX7_pluck 23 = .ok (.invokestatic 30, 3) := by decide +kernel
theorem dX7_pluck_26 : decode cX7_pluck 26 = .ok (.ifCond .ne 5, 3) := by decide +kernel
theorem dX7_pluck_29 : decode cX7_pluck 29 = .ok (.iconst (-1), 1) := by decide +kernel
theorem dX7_pluck_30 : decode cX7_pluck 30 = .ok (.ireturn, 1) := by decide +kernel
theorem dX7_pluck_31 : decode cX7_pluck 31 = .ok (.iload_n 2, 1) := by decide +kernel
theorem dX7_pluck_32 : decode cX7_pluck 32 = .ok (.aload_n 0, 1) := by decide +kernel
theorem dX7_pluck_33 : decode cX7_pluck 33 = .ok (.iload_n 1, 1) := by decide +kernel
theorem dX7_pluck_34 : decode cX7_pluck 34 = .ok (.invokevirtual 58, 3) := by decide +kernel
theorem dX7_pluck_37 : decode cX7_pluck 37 = .ok (.if_icmp .gt 6, 3) := by decide +kernel
theorem dX7_pluck_40 : decode cX7_pluck 40 = .ok (.bipush (-2), 2) := by decide +kernel
theorem dX7_pluck_42 : decode cX7_pluck 42 = .ok (.ireturn, 1) := by decide +kernel
theorem dX7_pluck_43 : decode cX7_pluck 43 = .ok (.aload_n 0, 1) := by decide +kernel
theorem dX7_pluck_44 : decode cX7_pluck 44 = .ok (.invokevirtual 69, 3) := by decide +kernel
theorem dX7_pluck_47 : decode cX7_pluck 47 = .ok (.aload_n 0, 1) := by decide +kernel
theorem dX7_pluck_48 : decode cX7_pluck 48 = .ok (.iload_n 1, 1) := by decide +kernel
theorem dX7_pluck_49 : decode cX7_pluck 49 = .ok (.iload_n 2, 1) := by decide +kernel
theorem dX7_pluck_50 : decode cX7_pluck 50 = .ok (.iload_n 3, 1) := by decide +kernel
theorem dX7_pluck_51 : decode cX7_pluck 51 = .ok (.invokevirtual 115, 3) := by decide +kernel
theorem dX7_pluck_54 : decode cX7_pluck 54 = .ok (.aload_n 0, 1) := by decide +kernel
theorem dX7_pluck_55 : decode cX7_pluck 55 = .ok (.iload_n 1, 1) := by decide +kernel
theorem dX7_pluck_56 : decode cX7_pluck 56 = .ok (.invokevirtual 118, 3) := by decide +kernel
theorem dX7_pluck_59 : decode cX7_pluck 59 = .ok (.invokestatic 121, 3) := by decide +kernel
theorem dX7_pluck_62 : decode cX7_pluck 62 = .ok (.ireturn, 1) := by decide +kernel
