theorem dX2_init_0 : decode cX2_init 0 = .ok (.aload_n 0, 1) := by decide +kernel
theorem dX2_init_1 : decode cX2_init 1 = .ok (.invokespecial 3, 3) := by decide +kernel
theorem dX2_init_4 : decode cX2_init 4 = .ok (.aload_n 0, 1) := by decide +kernel
theorem dX2_init_5 : decode cX2_init 5 = .ok (.bipush 52, 2) := by decide +kernel
theorem dX2_init_7 : decode cX2_init 7 = .ok (.newarray .int, 2) := by decide +kernel
theorem dX2_init_9 : decode cX2_init 9 = .ok (.putfield 11, 3) := by decide +kernel
theorem dX2_init_12 : decode cX2_init 12 = .ok (.aload_n 0, 1) := by decide +kernel
theorem dX2_init_13 : decode cX2_init 13 = .ok (.bipush 52, 2) := by decide +kernel
theorem dX2_init_15 : decode cX2_init 15 = .ok (.newarray .int, 2) := by decide +kernel
theorem dX2_init_17 : decode cX2_init 17 = .ok (.putfield 15, 3) := by decide +kernel
theorem dX2_init_20 : decode cX2_init 20 = .ok (.return_, 1) := by decide +kernel
theorem dX2_copyFrom_0 : decode cX2_copyFrom 0 = .ok (.aload_n 0, 1) := by decide +kernel
theorem dX2_copyFrom_1 : decode cX2_copyFrom 1 = .ok (.aload_n 1, 1) := by decide +kernel
theorem dX2_copyFrom_2 : decode cX2_copyFrom 2 = .ok (.getfield 18, 3) := by decide +kernel
theorem dX2_copyFrom_5 : decode cX2_copyFrom 5 = .ok (.putfield 18, 3) := by decide +kernel
theorem dX2_copyFrom_8 : decode cX2_copyFrom 8 = .ok (.aload_n 1, 1) := by decide +kernel
theorem dX2_copyFrom_9 : decode cX2_copyFrom 9 = .ok (.getfield 11, 3) := by decide +kernel
theorem dX2_copyFrom_12 : decode cX2_copyFrom 12 = .ok (.iconst 0, 1) := by decide +kernel
theorem dX2_copyFrom_13 : decode cX2_copyFrom 13 = .ok (.aload_n 0, 1) := by decide +kernel
theorem dX2_copyFrom_14 : decode cX2_copyFrom 14 = .ok (.getfield 11, 3) := by decide +kernel
theorem dX2_copyFrom_17 : decode cX2_copyFrom 17 = .ok (.iconst 0, 1) := by decide +kernel
theorem dX2_copyFrom_18 : decode cX2_copyFrom 18 = .ok (.bipush 52, 2) := by decide +kernel
theorem dX2_copyFrom_20 : decode cX2_copyFrom 20 = .ok (.invokestatic 22, 3) := by decide +kernel
theorem dX2_copyFrom_23 : decode cX2_copyFrom 23 = .ok (.aload_n 1, 1) := by decide +kernel
theorem dX2_copyFrom_24 : decode cX2_copyFrom 24 = .ok (.getfield 15, 3) := by decide +kernel
theorem dX2_copyFrom_27 : decode cX2_copyFrom 27 = .ok (.iconst 0, 1) := by decide +kernel
theorem dX2_copyFrom_28 : decode cX2_copyFrom 28 = .ok (.aload_n 0, 1) := by decide +kernel
theorem dX2_copyFrom_29 : decode cX2_copyFrom 29 = .ok (.getfield 15, 3) := by decide +kernel
theorem dX2_copyFrom_32 : decode cX2_copyFrom 32 = .ok (.iconst 0, 1) := by decide +kernel
theorem dX2_copyFrom_33 : decode cX2_copyFrom 33 = .ok (.bipush 52, 2) := by decide +kernel
theorem dX2_copyFrom_35 : decode cX2_copyFrom 35 = .ok (.invokestatic 22, 3) := by decide +kernel
theorem dX2_copyFrom_38 : decode cX2_copyFrom 38 = .ok (.return_, 1) := by decide +kernel
theorem dX2_add_0 : decode cX2_add 0 = .ok (.iload_n 1, 1) := by decide +kernel
theorem dX2_add_1 : decode cX2_add 1 = .ok (.bipush 13, 2) := by decide +kernel
theorem dX2_add_3 : decode cX2_add 3 = .ok (.imul, 1) := by decide +kernel
theorem dX2_add_4 : decode cX2_add 4 = .ok (.iload_n 2, 1) := by decide +kernel
theorem dX2_add_5 : decode cX2_add 5 = .ok (.iadd, 1) := by decide +kernel
theorem dX2_add_6 : decode cX2_add 6 = .ok (.istore_n 3, 1) := by decide +kernel
theorem dX2_add_7 : decode cX2_add 7 = .ok (.iload_n 3, 1) := by decide +kernel
theorem dX2_add_8 : decode cX2_add 8 = .ok (.ifCond .lt 12, 3) := by decide +kernel
theorem dX2_add_11 : decode cX2_add 11 = .ok (.iload_n 3, 1) := by decide +kernel
theorem dX2_add_12 : decode cX2_add 12 = .ok (.aload_n 0, 1) := by decide +kernel
theorem dX2_add_13 : decode cX2_add 13 = .ok (.getfield 15, 3) := by decide +kernel
theorem dX2_add_16 : decode cX2_add 16 = .ok (.arraylength, 1) := by decide +kernel
theorem dX2_add_17 : decode cX2_add 17 = .ok (.if_icmp .lt 4, 3) := by decide +kernel
theorem dX2_add_20 : decode cX2_add 20 = .ok (.return_, 1) := by decide +kernel
theorem dX2_add_21 : decode cX2_add 21 = .ok (.aload_n 0, 1) := by decide +kernel
theorem dX2_add_22 : decode cX2_add 22 = .ok (.getfield 15, 3) := by decide +kernel
theorem dX2_add_25 : decode cX2_add 25 = .ok (.iload_n 3, 1) := by decide +kernel
theorem dX2_add_26 : decode cX2_add 26 = .ok (.iaload, 1) := by decide +kernel
theorem dX2_add_27 : decode cX2_add 27 = .ok (.ifCond .ne 35, 3) := by decide +kernel
theorem dX2_add_30 : decode cX2_add 30 = .ok (.aload_n 0, 1) := by decide +kernel
theorem dX2_add_31 : decode cX2_add 31 = .ok (.getfield 18, 3) := by decide +kernel
theorem dX2_add_34 : decode cX2_add 34 = .ok (.aload_n 0, 1) := by decide +kernel
theorem dX2_add_35 : decode cX2_add 35 = .ok (.getfield 11, 3) := by decide +kernel
theorem dX2_add_38 : decode cX2_add 38 = .ok (.arraylength, 1) := by decide +kernel
theorem dX2_add_39 : decode cX2_add 39 = .ok (.if_icmp .ge 23, 3) := by decide +kernel
theorem dX2_add_42 : decode cX2_add 42 = .ok (.aload_n 0, 1) := by decide +kernel
theorem dX2_add_43 : decode cX2_add 43 = .ok (.getfield 11, 3) := by decide +kernel
theorem dX2_add_46 : decode cX2_add 46 = .ok (.aload_n 0, 1) := by decide +kernel
theorem dX2_add_47 : decode cX2_add 47 = .ok (.getfield 18, 3) := by decide +kernel
theorem dX2_add_50 : decode cX2_add 50 = .ok (.iload_n 3, 1) := by decide +kernel
theorem dX2_add_51 : decode cX2_add 51 = .ok (.iastore, 1) := by decide +kernel
theorem dX2_add_52 : decode cX2_add 52 = .ok (.aload_n 0, 1) := by decide +kernel
theorem dX2_add_53 : decode cX2_add 53 = .ok (.dup, 1) := by decide +kernel
theorem dX2_add_54 : decode cX2_add 54 = .ok (.getfield 18, 3) := by decide +kernel
theorem dX2_add_57 : decode cX2_add 57 = .ok (.iconst 1, 1) := by decide +kernel
theorem dX2_add_58 : decode cX2_add 58 = .ok (.iadd, 1) := by decide +kernel
theorem dX2_add_59 : decode cX2_add 59 = .ok (.putfield 18, 3) := by decide +kernel
theorem dX2_add_62 : decode cX2_add 62 = .ok (.aload_n 0, 1) := by decide +kernel
theorem dX2_add_63 : decode cX2_add 63 = .ok (.getfield 15, 3) := by decide +kernel
theorem dX2_add_66 : decode cX2_add 66 = .ok (.iload_n 3, 1) := by decide +kernel
theorem dX2_add_67 : decode cX2_add 67 = .ok (.dup2, 1) := by decide +kernel
theorem dX2_add_68 : decode cX2_add 68 = .ok (.iaload, 1) := by decide +kernel
theorem dX2_add_69 : decode cX2_add 69 = .ok (.iconst 1, 1) := by decide +kernel
theorem dX2_add_70 : decode cX2_add 70 = .ok (.iadd, 1) := by decide +kernel
theorem dX2_add_71 : decode cX2_add 71 = .ok (.iastore, 1) := by decide +kernel
theorem dX2_add_72 : decode cX2_add 72 = .ok (.return_, 1) := by decide +kernel
theorem dX2_noteAt_0 : decode cX2_noteAt 0 = .ok (.iload_n 1, 1) := by decide +kernel
theorem dX2_noteAt_1 : decode cX2_noteAt 1 = .ok (.ifCond .lt 29, 3) := by decide +kernel
theorem dX2_noteAt_4 : decode cX2_noteAt 4 = .ok (.iload_n 1, 1) := by decide +kernel
theorem dX2_noteAt_5 : decode cX2_noteAt 5 = .ok (.aload_n 0, 1) := by decide +kernel
theorem dX2_noteAt_6 : decode cX2_noteAt 6 = .ok (.getfield 18, 3) := by decide +kernel
theorem dX2_noteAt_9 : decode cX2_noteAt 9 = .ok (.if_icmp .ge 21, 3) := by decide +kernel
theorem dX2_noteAt_12 : decode cX2_noteAt 12 = .ok (.iload_n 1, 1) := by decide +kernel
theorem dX2_noteAt_13 : decode cX2_noteAt 13 = .ok (.aload_n 0, 1) := by decide +kernel
theorem dX2_noteAt_14 : decode cX2_noteAt 14 = .ok (.getfield 11, 3) := by decide +kernel
theorem dX2_noteAt_17 : decode cX2_noteAt 17 = .ok (.arraylength, 1) := by decide +kernel
theorem dX2_noteAt_18 : decode cX2_noteAt 18 = .ok (.if_icmp .ge 12, 3) := by decide +kernel
theorem dX2_noteAt_21 : decode cX2_noteAt 21 = .ok (.aload_n 0, 1) := by decide +kernel
theorem dX2_noteAt_22 : decode cX2_noteAt 22 = .ok (.getfield 11, 3) := by decide +kernel
theorem dX2_noteAt_25 : decode cX2_noteAt 25 = .ok (.iload_n 1, 1) := by decide +kernel
theorem dX2_noteAt_26 : decode cX2_noteAt 26 = .ok (.iaload, 1) := by decide +kernel
theorem dX2_noteAt_27 : decode cX2_noteAt 27 = .ok (.goto 4, 3) := by decide +kernel
theorem dX2_noteAt_30 : decode cX2_noteAt 30 = .ok (.iconst 0, 1) := by decide +kernel
theorem dX2_noteAt_31 : decode cX2_noteAt 31 = .ok (.ireturn, 1) := by decide +kernel
set_option maxRecDepth 20000 in
theorem ggX2_stringOf_X2_noteAt : GoodIn wsX2_stringOf wsX2_noteAt := goodIn_r _ [5, 6, 7, 8, 9, 10] (by decide +kernel) (by decide +kernel)
set_option maxRecDepth 20000 in
theorem gX2_stringOf_X2_noteAt : GoodIn wsX2_stringOf (wsV RX2 28 RX2 yX2_noteAt wsX2_noteAt) := goodIn_app (goodIn_of _ (by decide +kernel)) ggX2_stringOf_X2_noteAt
theorem dX2_stringOf_0 : decode cX2_stringOf 0 = .ok (.aload_n 0, 1) := by decide +kernel
theorem dX2_stringOf_1 : decode cX2_stringOf 1 = .ok (.iload_n 1, 1) := by decide +kernel
theorem dX2_stringOf_2 : decode cX2_stringOf 2 = .ok (.invokevirtual 28, 3) := by decide +kernel
theorem dX2_stringOf_5 : decode cX2_stringOf 5 = .ok (.bipush 13, 2) := by decide +kernel
theorem dX2_stringOf_7 : decode cX2_stringOf 7 = .ok (.idiv, 1) := by decide +kernel
theorem dX2_stringOf_8 : decode cX2_stringOf 8 = .ok (.ireturn, 1) := by decide +kernel
set_option maxRecDepth 20000 in
theorem ggX2_fretOf_X2_noteAt : GoodIn wsX2_fretOf wsX2_noteAt := goodIn_r _ [5, 6, 7, 8, 9, 10] (by decide +kernel) (by decide +kernel)
set_option maxRecDepth 20000 in
theorem gX2_fretOf_X2_noteAt : GoodIn wsX2_fretOf (wsV RX2 28 RX2 yX2_noteAt wsX2_noteAt) := goodIn_app (goodIn_of _ (by decide +kernel)) ggX2_fretOf_X2_noteAt
theorem dX2_fretOf_0 : decode cX2_fretOf 0 = .ok (.aload_n 0, 1) := by decide +kernel
theorem dX2_fretOf_1 : decode cX2_fretOf 1 = .ok (.iload_n 1, 1) := by decide +kernel
theorem dX2_fretOf_2 : decode cX2_fretOf 2 = .ok (.invokevirtual 28, 3) := by decide +kernel
theorem dX2_fretOf_5 : decode cX2_fretOf 5 = .ok (.bipush 13, 2) := by decide +kernel
theorem dX2_fretOf_7 : decode cX2_fretOf 7 = .ok (.irem, 1) := by decide +kernel
theorem dX2_fretOf_8 : decode cX2_fretOf 8 = .ok (.ireturn, 1) := by decide +kernel
set_option maxRecDepth 20000 in
theorem ggX2_timesOf_X2_noteAt : GoodIn wsX2_timesOf wsX2_noteAt := goodIn_r _ [6, 7, 8, 9, 10, 11] (by decide +kernel) (by decide +kernel)
set_option maxRecDepth 20000 in
theorem gX2_timesOf_X2_noteAt : GoodIn wsX2_timesOf (wsV RX2 28 RX2 yX2_noteAt wsX2_noteAt) := goodIn_app (goodIn_of _ (by decide +kernel)) ggX2_timesOf_X2_noteAt
theorem dX2_timesOf_0 : decode cX2_timesOf 0 = .ok (.aload_n 0, 1) := by decide +kernel
theorem dX2_timesOf_1 : decode cX2_timesOf 1 = .ok (.iload_n 1, 1) := by decide +kernel
theorem dX2_timesOf_2 : decode cX2_timesOf 2 = .ok (.invokevirtual 28, 3) := by decide +kernel
theorem dX2_timesOf_5 : decode cX2_timesOf 5 = .ok (.istore_n 2, 1) := by decide +kernel
theorem dX2_timesOf_6 : decode cX2_timesOf 6 = .ok (.iload_n 2, 1) := by decide +kernel
theorem dX2_timesOf_7 : decode cX2_timesOf 7 = .ok (.ifCond .lt 21, 3) := by decide +kernel
theorem dX2_timesOf_10 : decode cX2_timesOf 10 = .ok (.iload_n 2, 1) := by decide +kernel
theorem dX2_timesOf_11 : decode cX2_timesOf 11 = .ok (.aload_n 0, 1) := by decide +kernel
theorem dX2_timesOf_12 : decode cX2_timesOf 12 = .ok (.getfield 15, 3) := by decide +kernel
theorem dX2_timesOf_15 : decode cX2_timesOf 15 = .ok (.arraylength, 1) := by decide +kernel
theorem dX2_timesOf_16 : decode cX2_timesOf 16 = .ok (.if_icmp .ge 12, 3) := by decide +kernel
theorem dX2_timesOf_19 : decode cX2_timesOf 19 = .ok (.aload_n 0, 1) := by decide +kernel
theorem dX2_timesOf_20 : decode cX2_timesOf 20 = .ok (.getfield 15, 3) := by decide +kernel
theorem dX2_timesOf_23 : decode cX2_timesOf 23 = .ok (.iload_n 2, 1) := by decide +kernel
theorem dX2_timesOf_24 : decode cX2_timesOf 24 = .ok (.iaload, 1) := by decide +kernel
theorem dX2_timesOf_25 : decode cX2_timesOf 25 = .ok (.goto 4, 3) := by decide +kernel
theorem dX2_timesOf_28 : decode cX2_timesOf 28 = .ok (.iconst 0, 1) := by decide +kernel
theorem dX2_timesOf_29 : decode cX2_timesOf 29 = .ok (.ireturn, 1) := by decide +kernel
theorem dX3_init_0 : decode cX3_init 0 = .ok (.aload_n 0, 1) := by decide +kernel
theorem dX3_init_1 : decode cX3_init 1 = .ok (.invokespecial 3, 3) := by decide +kernel
theorem dX3_init_4 : decode cX3_init 4 = .ok (.aload_n 0, 1) := by decide +kernel
theorem dX3_init_5 : decode cX3_init 5 = .ok (.bipush 80, 2) := by decide +kernel
theorem dX3_init_7 : decode cX3_init 7 = .ok (.newarray .char, 2) := by decide +kernel
theorem dX3_init_9 : decode cX3_init 9 = .ok (.putfield 9, 3) := by decide +kernel
theorem dX3_init_12 : decode cX3_init 12 = .ok (.return_, 1) := by decide +kernel
theorem dX3_append_0 : decode cX3_append 0 = .ok (.aload_n 0, 1) := by decide +kernel
theorem dX3_append_1 : decode cX3_append 1 = .ok (.getfield 15, 3) := by decide +kernel
theorem dX3_append_4 : decode cX3_append 4 = .ok (.ifCond .lt 35, 3) := by decide +kernel
theorem dX3_append_7 : decode cX3_append 7 = .ok (.aload_n 0, 1) := by decide +kernel
theorem dX3_append_8 : decode cX3_append 8 = .ok (.getfield 15, 3) := by decide +kernel
theorem dX3_append_11 : decode cX3_append 11 = .ok (.aload_n 0, 1) := by decide +kernel
theorem dX3_append_12 : decode cX3_append 12 = .ok (.getfield 9, 3) := by decide +kernel
theorem dX3_append_15 : decode cX3_append 15 = .ok (.arraylength, 1) := by decide +kernel
theorem dX3_append_16 : decode cX3_append 16 = .ok (.if_icmp .ge 23, 3) := by decide +kernel
theorem dX3_append_19 : decode cX3_append 19 = .ok (.aload_n 0, 1) := by decide +kernel
theorem dX3_append_20 : decode cX3_append 20 = .ok (.getfield 9, 3) := by decide +kernel
theorem dX3_append_23 : decode cX3_append 23 = .ok (.aload_n 0, 1) := by decide +kernel
theorem dX3_append_24 : decode cX3_append 24 = .ok (.getfield 15, 3) := by decide +kernel
theorem dX3_append_27 : decode cX3_append 27 = .ok (.iload_n 1, 1) := by decide +kernel
theorem dX3_append_28 : decode cX3_append 28 = .ok (.castore, 1) := by decide +kernel
theorem dX3_append_29 : decode cX3_append 29 = .ok (.aload_n 0, 1) := by decide +kernel
theorem dX3_append_30 : decode cX3_append 30 = .ok (.dup, 1) := by decide +kernel
theorem dX3_append_31 : decode cX3_append 31 = .ok (.getfield 15, 3) := by decide +kernel
theorem dX3_append_34 : decode cX3_append 34 = .ok (.iconst 1, 1) := by decide +kernel
theorem dX3_append_35 : decode cX3_append 35 = .ok (.iadd, 1) := by decide +kernel
theorem dX3_append_36 : decode cX3_append 36 = .ok (.putfield 15, 3) := by decide +kernel
theorem dX3_append_39 : decode cX3_append 39 = .ok (.return_, 1) := by decide +kernel
set_option maxRecDepth 20000 in
theorem ggX3_findFault_X3_reasonAt : GoodIn wsX3_findFault wsX3_reasonAt := goodIn_r _ [9, 10, 11, 12, 3, 13, 14, 15, 16, 8, 17, 4, 18, 19, 20, 21, 22, 23, 24, 25, 26, 1, 27, 28, 29, 30, 31, 32, 33, 34, 35, 36, 37, 38, 39, 40, 41, 42, 43, 44, 45, 46] (by decide +kernel) (by decide +kernel)
set_option maxRecDepth 20000 in
theorem gX3_findFault_X3_reasonAt : GoodIn wsX3_findFault (wsV RX3 19 RX3 yX3_reasonAt wsX3_reasonAt) := goodIn_app (goodIn_of _ (by decide +kernel)) ggX3_findFault_X3_reasonAt
theorem dX3_findFault_0 : decode cX3_findFault 0 = .ok (.iconst 0, 1) := by decide +kernel
theorem dX3_findFault_1 : decode cX3_findFault 1 = .ok (.istore_n 3, 1) := by decide +kernel
theorem dX3_findFault_2 : decode cX3_findFault 2 = .ok (.iload_n 2, 1) := by decide +kernel
theorem dX3_findFault_3 : decode cX3_findFault 3 = .ok (.istore 4, 2) := by decide +kernel
theorem dX3_findFault_5 : decode cX3_findFault 5 = .ok (.iconst 0, 1) := by decide +kernel
theorem dX3_findFault_6 : decode cX3_findFault 6 = .ok (.istore 5, 2) := by decide +kernel
theorem dX3_findFault_8 : decode cX3_findFault 8 = .ok (.iload 5, 2) := by decide +kernel
theorem dX3_findFault_10 : decode cX3_findFault 10 = .ok (.bipush 80, 2) := by decide +kernel
theorem dX3_findFault_12 : decode cX3_findFault 12 = .ok (.if_icmp .ge 54, 3) := by decide +kernel
theorem dX3_findFault_15 : decode cX3_findFault 15 = .ok (.iload_n 3, 1) := by decide +kernel
theorem dX3_findFault_16 : decode cX3_findFault 16 = .ok (.aload_n 0, 1) := by decide +kernel
theorem dX3_findFault_17 : decode cX3_findFault 17 = .ok (.getfield 15, 3) := by decide +kernel
theorem dX3_findFault_20 : decode cX3_findFault 20 = .ok (.if_icmp .ge 46, 3) := by decide +kernel
theorem dX3_findFault_23 : decode cX3_findFault 23 = .ok (.aload_n 0, 1) := by decide +kernel
theorem dX3_findFault_24 : decode cX3_findFault 24 = .ok (.iload_n 3, 1) := by decide +kernel
theorem dX3_findFault_25 : decode cX3_findFault 25 = .ok (.iload_n 1, 1) := by decide +kernel
theorem dX3_findFault_26 : decode cX3_findFault 26 = .ok (.iload 4, 2) := by decide +kernel
theorem dX3_findFault_28 : decode cX3_findFault 28 = .ok (.invokevirtual 19, 3) := by decide +kernel
theorem dX3_findFault_31 : decode cX3_findFault 31 = .ok (.istore 6, 2) := by decide +kernel
theorem dX3_findFault_33 : decode cX3_findFault 33 = .ok (.iload 6, 2) := by decide +kernel
theorem dX3_findFault_35 : decode cX3_findFault 35 = .ok (.ifCond .eq 11, 3) := by decide +kernel
theorem dX3_findFault_38 : decode cX3_findFault 38 = .ok (.aload_n 0, 1) := by decide +kernel
theorem dX3_findFault_39 : decode cX3_findFault 39 = .ok (.iload_n 3, 1) := by decide +kernel
theorem dX3_findFault_40 : decode cX3_findFault 40 = .ok (.putfield 23, 3) := by decide +kernel
theorem dX3_findFault_43 : decode cX3_findFault 43 = .ok (.iload 6, 2) := by decide +kernel
theorem dX3_findFault_45 : decode cX3_findFault 45 = .ok (.ireturn, 1) := by decide +kernel
theorem dX3_findFault_46 : decode cX3_findFault 46 = .ok (.iload 4, 2) := by decide +kernel
theorem dX3_findFault_48 : decode cX3_findFault 48 = .ok (.aload_n 0, 1) := by decide +kernel
theorem dX3_findFault_49 : decode cX3_findFault 49 = .ok (.getfield 26, 3) := by decide +kernel
theorem dX3_findFault_52 : decode cX3_findFault 52 = .ok (.iadd, 1) := by decide +kernel
theorem dX3_findFault_53 : decode cX3_findFault 53 = .ok (.istore 4, 2) := by decide +kernel
theorem dX3_findFault_55 : decode cX3_findFault 55 = .ok (.aload_n 0, 1) := by decide +kernel
theorem dX3_findFault_56 : decode cX3_findFault 56 = .ok (.getfield 29, 3) := by decide +kernel
theorem dX3_findFault_59 : decode cX3_findFault 59 = .ok (.istore_n 3, 1) := by decide +kernel
theorem dX3_findFault_60 : decode cX3_findFault 60 = .ok (.iinc 5 1, 3) := by decide +kernel
theorem dX3_findFault_63 : decode cX3_findFault 63 = .ok (.goto (-55), 3) := by decide +kernel
theorem dX3_findFault_66 : decode cX3_findFault 66 = .ok (.iconst 0, 1) := by decide +kernel
theorem dX3_findFault_67 : decode cX3_findFault 67 = .ok (.ireturn, 1) := by decide +kernel
set_option maxRecDepth 20000 in
theorem ggX3_reasonAt_X3_readNote : GoodIn wsX3_reasonAt wsX3_readNote := goodIn_r _ [10, 11, 12, 1, 2, 3, 4, 13, 14, 15, 9, 16, 17, 18, 19, 20, 21, 22, 23, 24, 25, 26, 27, 28, 29, 30, 31, 32, 33, 34, 35, 36, 37, 38, 39, 40, 41] (by decide +kernel) (by decide +kernel)
set_option maxRecDepth 20000 in
theorem gX3_reasonAt_X3_readNote : GoodIn wsX3_reasonAt (wsV RX3 32 RX3 yX3_readNote wsX3_readNote) := goodIn_app (goodIn_of _ (by decide +kernel)) ggX3_reasonAt_X3_readNote
set_option maxRecDepth 20000 in
theorem ggX3_reasonAt_X6_isWithin : GoodIn wsX3_reasonAt wsX6_isWithin := goodIn_r _ [28] (by decide +kernel) (by decide +kernel)
set_option maxRecDepth 20000 in
theorem gX3_reasonAt_X6_isWithin_n42 : GoodIn wsX3_reasonAt (wsX6_isWithin) := ggX3_reasonAt_X6_isWithin
theorem dX3_reasonAt_0 : decode cX3_reasonAt 0 = .ok (.aload_n 0, 1) := by decide +kernel
theorem dX3_reasonAt_1 : decode cX3_reasonAt 1 = .ok (.iload_n 1, 1) := by decide +kernel
theorem dX3_reasonAt_2 : decode cX3_reasonAt 2 = .ok (.invokevirtual 32, 3) := by decide +kernel
theorem dX3_reasonAt_5 : decode cX3_reasonAt 5 = .ok (.ifCond .ne 5, 3) := by decide +kernel
theorem dX3_reasonAt_8 : decode cX3_reasonAt 8 = .ok (.iconst 1, 1) := by decide +kernel
theorem dX3_reasonAt_9 : decode cX3_reasonAt 9 = .ok (.ireturn, 1) := by decide +kernel
theorem dX3_reasonAt_10 : decode cX3_reasonAt 10 = .ok (.aload_n 0, 1) := by decide +kernel
theorem dX3_reasonAt_11 : decode cX3_reasonAt 11 = .ok (.getfield 36, 3) := by decide +kernel
theorem dX3_reasonAt_14 : decode cX3_reasonAt 14 = .ok (.iload_n 2, 1) := by decide +kernel
theorem dX3_reasonAt_15 : decode cX3_reasonAt 15 = .ok (.if_icmp .le 5, 3) := by decide +kernel
theorem dX3_reasonAt_18 : decode cX3_reasonAt 18 = .ok (.iconst 2, 1) := by decide +kernel
theorem dX3_reasonAt_19 : decode cX3_reasonAt 19 = .ok (.ireturn, 1) := by decide +kernel
theorem dX3_reasonAt_20 : decode cX3_reasonAt 20 = .ok (.aload_n 0, 1) := by decide +kernel
theorem dX3_reasonAt_21 : decode cX3_reasonAt 21 = .ok (.getfield 39, 3) := by decide +kernel
theorem dX3_reasonAt_24 : decode cX3_reasonAt 24 = .ok (.iconst 1, 1) := by decide +kernel
theorem dX3_reasonAt_25 : decode cX3_reasonAt 25 = .ok (.sipush 1000, 3) := by decide +kernel
theorem dX3_reasonAt_28 : decode cX3_reasonAt 28 = .ok (.invokestatic 42, 3) := by decide +kernel
theorem dX3_reasonAt_31 : decode cX3_reasonAt 31 = .ok (.ifCond .eq 24, 3) := by decide +kernel
theorem dX3_reasonAt_34 : decode cX3_reasonAt 34 = .ok (.aload_n 0, 1) := by decide +kernel
theorem dX3_reasonAt_35 : decode cX3_reasonAt 35 = .ok (.getfield 46, 3) := by decide +kernel
theorem dX3_reasonAt_38 : decode cX3_reasonAt 38 = .ok (.ifCond .eq 19, 3) := by decide +kernel
theorem dX3_reasonAt_41 : decode cX3_reasonAt 41 = .ok (.aload_n 0, 1) := by decide +kernel
theorem dX3_reasonAt_42 : decode cX3_reasonAt 42 = .ok (.getfield 26, 3) := by decide +kernel
theorem dX3_reasonAt_45 : decode cX3_reasonAt 45 = .ok (.iconst 1, 1) := by decide +kernel
theorem dX3_reasonAt_46 : decode cX3_reasonAt 46 = .ok (.sipush 500, 3) := by decide +kernel
theorem dX3_reasonAt_49 : decode cX3_reasonAt 49 = .ok (.invokestatic 42, 3) := by decide +kernel
theorem dX3_reasonAt_52 : decode cX3_reasonAt 52 = .ok (.ifCond .ne 5, 3) := by decide +kernel
theorem dX3_reasonAt_55 : decode cX3_reasonAt 55 = .ok (.iconst 3, 1) := by decide +kernel
theorem dX3_reasonAt_56 : decode cX3_reasonAt 56 = .ok (.ireturn, 1) := by decide +kernel
theorem dX3_reasonAt_57 : decode cX3_reasonAt 57 = .ok (.iload_n 3, 1) := by decide +kernel
theorem dX3_reasonAt_58 : decode cX3_reasonAt 58 = .ok (.aload_n 0, 1) := by decide +kernel
theorem dX3_reasonAt_59 : decode cX3_reasonAt 59 = .ok (.getfield 26, 3) := by decide +kernel
theorem dX3_reasonAt_62 : decode cX3_reasonAt 62 = .ok (.iadd, 1) := by decide +kernel
theorem dX3_reasonAt_63 : decode cX3_reasonAt 63 = .ok (.ldc 50, 2) := by decide +kernel
theorem dX3_reasonAt_65 : decode cX3_reasonAt 65 = .ok (.if_icmp .le 7, 3) := by decide +kernel
theorem dX3_reasonAt_68 : decode cX3_reasonAt 68 = .ok (.iconst 4, 1) := by decide +kernel
theorem dX3_reasonAt_69 : decode cX3_reasonAt 69 = .ok (.goto 4, 3) := by decide +kernel
theorem dX3_reasonAt_72 : decode cX3_reasonAt 72 = .ok (.iconst 0, 1) := by decide +kernel
theorem dX3_reasonAt_73 : decode cX3_reasonAt 73 = .ok (.ireturn, 1) := by decide +kernel
set_option maxRecDepth 20000 in
theorem ggX3_readNote_X3_readNumber : GoodIn wsX3_readNote wsX3_readNumber := goodIn_r _ [11, 1, 12, 13, 14, 10, 15, 16, 17, 28, 29, 30, 31, 32, 33, 34, 35, 36] (by decide +kernel) (by decide +kernel)
set_option maxRecDepth 20000 in
theorem gX3_readNote_X3_readNumber : GoodIn wsX3_readNote (wsV RX3 51 RX3 yX3_readNumber wsX3_readNumber) := goodIn_app (goodIn_of _ (by decide +kernel)) ggX3_readNote_X3_readNumber
set_option maxRecDepth 20000 in
theorem ggX3_readNote_X6_isString : GoodIn wsX3_readNote wsX6_isString := goodIn_r _ [20, 21, 22, 19, 23] (by decide +kernel) (by decide +kernel)
set_option maxRecDepth 20000 in
theorem gX3_readNote_X6_isString_n58 : GoodIn wsX3_readNote (wsX6_isString) := ggX3_readNote_X6_isString
set_option maxRecDepth 20000 in
theorem ggX3_readNote_X3_readSign : GoodIn wsX3_readNote wsX3_readSign := goodIn_r _ [27, 1, 12, 13, 14, 10, 15, 16, 17, 28, 29, 30, 31, 32, 33, 34, 35, 36] (by decide +kernel) (by decide +kernel)
set_option maxRecDepth 20000 in
theorem gX3_readNote_X3_readSign : GoodIn wsX3_readNote (wsV RX3 61 RX3 yX3_readSign wsX3_readSign) := goodIn_app (goodIn_of _ (by decide +kernel)) ggX3_readNote_X3_readSign
theorem dX3_readNote_0 : decode cX3_readNote 0 = .ok (.aload_n 0, 1) := by decide +kernel
theorem dX3_readNote_1 : decode cX3_readNote 1 = .ok (.iload_n 1, 1) := by decide +kernel
theorem dX3_readNote_2 : decode cX3_readNote 2 = .ok (.putfield 29, 3) := by decide +kernel
theorem dX3_readNote_5 : decode cX3_readNote 5 = .ok (.aload_n 0, 1) := by decide +kernel
theorem dX3_readNote_6 : decode cX3_readNote 6 = .ok (.aload_n 0, 1) := by decide +kernel
theorem dX3_readNote_7 : decode cX3_readNote 7 = .ok (.iconst 1, 1) := by decide +kernel
theorem dX3_readNote_8 : decode cX3_readNote 8 = .ok (.invokevirtual 51, 3) := by decide +kernel
theorem dX3_readNote_11 : decode cX3_readNote 11 = .ok (.putfield 55, 3) := by decide +kernel
theorem dX3_readNote_14 : decode cX3_readNote 14 = .ok (.aload_n 0, 1) := by decide +kernel
theorem dX3_readNote_15 : decode cX3_readNote 15 = .ok (.getfield 55, 3) := by decide +kernel
theorem dX3_readNote_18 : decode cX3_readNote 18 = .ok (.invokestatic 58, 3) := by decide +kernel
theorem dX3_readNote_21 : decode cX3_readNote 21 = .ok (.ifCond .eq 12, 3) := by decide +kernel
theorem dX3_readNote_24 : decode cX3_readNote 24 = .ok (.aload_n 0, 1) := by decide +kernel
theorem dX3_readNote_25 : decode cX3_readNote 25 = .ok (.bipush 58, 2) := by decide +kernel
theorem dX3_readNote_27 : decode cX3_readNote 27 = .ok (.invokevirtual 61, 3) := by decide +kernel
theorem dX3_readNote_30 : decode cX3_readNote 30 = .ok (.ifCond .ne 5, 3) := by decide +kernel
theorem dX3_readNote_33 : decode cX3_readNote 33 = .ok (.iconst 0, 1) := by decide +kernel
theorem dX3_readNote_34 : decode cX3_readNote 34 = .ok (.ireturn, 1) := by decide +kernel
theorem dX3_readNote_35 : decode cX3_readNote 35 = .ok (.aload_n 0, 1) := by decide +kernel
theorem dX3_readNote_36 : decode cX3_readNote 36 = .ok (.aload_n 0, 1) := by decide +kernel
theorem dX3_readNote_37 : decode cX3_readNote 37 = .ok (.iconst 2, 1) := by decide +kernel
theorem dX3_readNote_38 : decode cX3_readNote 38 = .ok (.invokevirtual 51, 3) := by decide +kernel
theorem dX3_readNote_41 : decode cX3_readNote 41 = .ok (.putfield 36, 3) := by decide +kernel
theorem dX3_readNote_44 : decode cX3_readNote 44 = .ok (.aload_n 0, 1) := by decide +kernel
theorem dX3_readNote_45 : decode cX3_readNote 45 = .ok (.getfield 36, 3) := by decide +kernel
theorem dX3_readNote_48 : decode cX3_readNote 48 = .ok (.ifCond .lt 12, 3) := by decide +kernel
theorem dX3_readNote_51 : decode cX3_readNote 51 = .ok (.aload_n 0, 1) := by decide +kernel
theorem dX3_readNote_52 : decode cX3_readNote 52 = .ok (.bipush 33, 2) := by decide +kernel
theorem dX3_readNote_54 : decode cX3_readNote 54 = .ok (.invokevirtual 61, 3) := by decide +kernel
theorem dX3_readNote_57 : decode cX3_readNote 57 = .ok (.ifCond .ne 5, 3) := by decide +kernel
theorem dX3_readNote_60 : decode cX3_readNote 60 = .ok (.iconst 0, 1) := by decide +kernel
theorem dX3_readNote_61 : decode cX3_readNote 61 = .ok (.ireturn, 1) := by decide +kernel
theorem dX3_readNote_62 : decode cX3_readNote 62 = .ok (.aload_n 0, 1) := by decide +kernel
theorem dX3_readNote_63 : decode cX3_readNote 63 = .ok (.aload_n 0, 1) := by decide +kernel
theorem dX3_readNote_64 : decode cX3_readNote 64 = .ok (.iconst 4, 1) := by decide +kernel
theorem dX3_readNote_65 : decode cX3_readNote 65 = .ok (.invokevirtual 51, 3) := by decide +kernel
theorem dX3_readNote_68 : decode cX3_readNote 68 = .ok (.putfield 39, 3) := by decide +kernel
theorem dX3_readNote_71 : decode cX3_readNote 71 = .ok (.aload_n 0, 1) := by decide +kernel
theorem dX3_readNote_72 : decode cX3_readNote 72 = .ok (.getfield 39, 3) := by decide +kernel
theorem dX3_readNote_75 : decode cX3_readNote 75 = .ok (.ifCond .ge 5, 3) := by decide +kernel
theorem dX3_readNote_78 : decode cX3_readNote 78 = .ok (.iconst 0, 1) := by decide +kernel
theorem dX3_readNote_79 : decode cX3_readNote 79 = .ok (.ireturn, 1) := by decide +kernel
theorem dX3_readNote_80 : decode cX3_readNote 80 = .ok (.aload_n 0, 1) := by decide +kernel
theorem dX3_readNote_81 : decode cX3_readNote 81 = .ok (.aload_n 0, 1) := by decide +kernel
theorem dX3_readNote_82 : decode cX3_readNote 82 = .ok (.bipush 43, 2) := by decide +kernel
theorem dX3_readNote_84 : decode cX3_readNote 84 = .ok (.invokevirtual 61, 3) := by decide +kernel
theorem dX3_readNote_87 : decode cX3_readNote 87 = .ok (.putfield 46, 3) := by decide +kernel
theorem dX3_readNote_90 : decode cX3_readNote 90 = .ok (.aload_n 0, 1) := by decide +kernel
theorem dX3_readNote_91 : decode cX3_readNote 91 = .ok (.aload_n 0, 1) := by decide +kernel
theorem dX3_readNote_92 : decode cX3_readNote 92 = .ok (.getfield 46, 3) := by decide +kernel
theorem dX3_readNote_95 : decode cX3_readNote 95 = .ok (.ifCond .eq 11, 3) := by decide +kernel
theorem dX3_readNote_98 : decode cX3_readNote 98 = .ok (.aload_n 0, 1) := by decide +kernel
theorem dX3_readNote_99 : decode cX3_readNote 99 = .ok (.iconst 3, 1) := by decide +kernel
theorem dX3_readNote_100 : decode cX3_readNote 100 = .ok (.invokevirtual 51, 3) := by decide +kernel
theorem dX3_readNote_103 : decode cX3_readNote 103 = .ok (.goto 4, 3) := by decide +kernel
theorem dX3_readNote_106 : decode cX3_readNote 106 = .ok (.iconst 0, 1) := by decide +kernel
theorem dX3_readNote_107 : decode cX3_readNote 107 = .ok (.putfield 26, 3) := by decide +kernel
theorem dX3_readNote_110 : decode cX3_readNote 110 = .ok (.aload_n 0, 1) := by decide +kernel
theorem dX3_readNote_111 : decode cX3_readNote 111 = .ok (.getfield 26, 3) := by decide +kernel
theorem dX3_readNote_114 : decode cX3_readNote 114 = .ok (.ifCond .lt 16, 3) := by decide +kernel
theorem dX3_readNote_117 : decode cX3_readNote 117 = .ok (.aload_n 0, 1) := by decide +kernel
theorem dX3_readNote_118 : decode cX3_readNote 118 = .ok (.bipush 59, 2) := by decide +kernel
theorem dX3_readNote_120 : decode cX3_readNote 120 = .ok (.invokevirtual 61, 3) := by decide +kernel
theorem dX3_readNote_123 : decode cX3_readNote 123 = .ok (.ifCond .eq 7, 3) := by decide +kernel
theorem dX3_readNote_126 : decode cX3_readNote 126 = .ok (.iconst 1, 1) := by decide +kernel
theorem dX3_readNote_127 : decode cX3_readNote 127 = .ok (.goto 4, 3) := by decide +kernel
theorem dX3_readNote_130 : decode cX3_readNote 130 = .ok (.iconst 0, 1) := by decide +kernel
theorem dX3_readNote_131 : decode cX3_readNote 131 = .ok (.ireturn, 1) := by decide +kernel
set_option maxRecDepth 20000 in
theorem ggX3_readSign_X3_signAt : GoodIn wsX3_readSign wsX3_signAt := goodIn_r _ [6, 7, 8, 9, 10, 11, 12, 13, 14, 15, 16, 17] (by decide +kernel) (by decide +kernel)
set_option maxRecDepth 20000 in
theorem gX3_readSign_X3_signAt : GoodIn wsX3_readSign (wsV RX3 65 RX3 yX3_signAt wsX3_signAt) := goodIn_app (goodIn_of _ (by decide +kernel)) ggX3_readSign_X3_signAt
theorem dX3_readSign_0 : decode cX3_readSign 0 = .ok (.aload_n 0, 1) := by decide +kernel
theorem dX3_readSign_1 : decode cX3_readSign 1 = .ok (.aload_n 0, 1) := by decide +kernel
theorem dX3_readSign_2 : decode cX3_readSign 2 = .ok (.getfield 29, 3) := by decide +kernel
theorem dX3_readSign_5 : decode cX3_readSign 5 = .ok (.invokevirtual 65, 3) := by decide +kernel
theorem dX3_readSign_8 : decode cX3_readSign 8 = .ok (.iload_n 1, 1) := by decide +kernel
theorem dX3_readSign_9 : decode cX3_readSign 9 = .ok (.if_icmp .eq 5, 3) := by decide +kernel
theorem dX3_readSign_12 : decode cX3_readSign 12 = .ok (.iconst 0, 1) := by decide +kernel
theorem dX3_readSign_13 : decode cX3_readSign 13 = .ok (.ireturn, 1) := by decide +kernel
theorem dX3_readSign_14 : decode cX3_readSign 14 = .ok (.aload_n 0, 1) := by decide +kernel
theorem dX3_readSign_15 : decode cX3_readSign 15 = .ok (.dup, 1) := by decide +kernel
theorem dX3_readSign_16 : decode cX3_readSign 16 = .ok (.getfield 29, 3) := by decide +kernel
theorem dX3_readSign_19 : decode cX3_readSign 19 = .ok (.iconst 1, 1) := by decide +kernel
theorem dX3_readSign_20 : decode cX3_readSign 20 = .ok (.iadd, 1) := by decide +kernel
theorem dX3_readSign_21 : decode cX3_readSign 21 = .ok (.putfield 29, 3) := by decide +kernel
theorem dX3_readSign_24 : decode cX3_readSign 24 = .ok (.iconst 1, 1) := by decide +kernel
theorem dX3_readSign_25 : decode cX3_readSign 25 = .ok (.ireturn, 1) := by decide +kernel
set_option maxRecDepth 20000 in
theorem ggX3_readNumber_X3_signAt : GoodIn wsX3_readNumber wsX3_signAt := goodIn_r _ [6, 7, 8, 9, 10, 11, 12, 13, 14, 15, 16, 17] (by decide +kernel) (by decide +kernel)
set_option maxRecDepth 20000 in
theorem gX3_readNumber_X3_signAt : GoodIn wsX3_readNumber (wsV RX3 65 RX3 yX3_signAt wsX3_signAt) := goodIn_app (goodIn_of _ (by decide +kernel)) ggX3_readNumber_X3_signAt
theorem dX3_readNumber_0 : decode cX3_readNumber 0 = .ok (.iconst 0, 1) := by decide +kernel
theorem dX3_readNumber_1 : decode cX3_readNumber 1 = .ok (.istore_n 2, 1) := by decide +kernel
theorem dX3_readNumber_2 : decode cX3_readNumber 2 = .ok (.iconst 0, 1) := by decide +kernel
theorem dX3_readNumber_3 : decode cX3_readNumber 3 = .ok (.istore_n 3, 1) := by decide +kernel
theorem dX3_readNumber_4 : decode cX3_readNumber 4 = .ok (.iload_n 3, 1) := by decide +kernel
theorem dX3_readNumber_5 : decode cX3_readNumber 5 = .ok (.iload_n 1, 1) := by decide +kernel
theorem dX3_readNumber_6 : decode cX3_readNumber 6 = .ok (.if_icmp .ge 62, 3) := by decide +kernel
theorem dX3_readNumber_9 : decode cX3_readNumber 9 = .ok (.aload_n 0, 1) := by decide +kernel
theorem dX3_readNumber_10 : decode cX3_readNumber 10 = .ok (.aload_n 0, 1) := by decide +kernel
theorem dX3_readNumber_11 : decode cX3_readNumber 11 = .ok (.getfield 29, 3) := by decide +kernel
theorem dX3_readNumber_14 : decode cX3_readNumber 14 = .ok (.invokevirtual 65, 3) := by decide +kernel
theorem dX3_readNumber_17 : decode cX3_readNumber 17 = .ok (.bipush 48, 2) := by decide +kernel
theorem dX3_readNumber_19 : decode cX3_readNumber 19 = .ok (.if_icmp .lt 49, 3) := by decide +kernel
theorem dX3_readNumber_22 : decode cX3_readNumber 22 = .ok (.aload_n 0, 1) := by decide +kernel
theorem dX3_readNumber_23 : decode cX3_readNumber 23 = .ok (.aload_n 0, 1) := by decide +kernel
theorem dX3_readNumber_24 : decode cX3_readNumber 24 = .ok (.getfield 29, 3) := by decide +kernel
theorem dX3_readNumber_27 : decode cX3_readNumber 27 = .ok (.invokevirtual 65, 3) := by decide +kernel
theorem dX3_readNumber_30 : decode cX3_readNumber 30 = .ok (.bipush 57, 2) := by decide +kernel
theorem dX3_readNumber_32 : decode cX3_readNumber 32 = .ok (.if_icmp .gt 36, 3) := by decide +kernel
theorem dX3_readNumber_35 : decode cX3_readNumber 35 = .ok (.iload_n 2, 1) := by decide +kernel
theorem dX3_readNumber_36 : decode cX3_readNumber 36 = .ok (.bipush 10, 2) := by decide +kernel
theorem dX3_readNumber_38 : decode cX3_readNumber 38 = .ok (.imul, 1) := by decide +kernel
theorem dX3_readNumber_39 : decode cX3_readNumber 39 = .ok (.aload_n 0, 1) := by decide +kernel
theorem dX3_readNumber_40 : decode cX3_readNumber 40 = .ok (.aload_n 0, 1) := by decide +kernel
theorem dX3_readNumber_41 : decode cX3_readNumber 41 = .ok (.getfield 29, 3) := by decide +kernel
theorem dX3_readNumber_44 : decode cX3_readNumber 44 = .ok (.invokevirtual 65, 3) := by decide +kernel
theorem dX3_readNumber_47 : decode cX3_readNumber 47 = .ok (.bipush 48, 2) := by decide +kernel
theorem dX3_readNumber_49 : decode cX3_readNumber 49 = .ok (.isub, 1) := by decide +kernel
theorem dX3_readNumber_50 : decode cX3_readNumber 50 = .ok (.iadd, 1) := by decide +kernel
theorem dX3_readNumber_51 : decode cX3_readNumber 51 = .ok (.istore_n 2, 1) := by decide +kernel
theorem dX3_readNumber_52 : decode cX3_readNumber 52 = .ok (.aload_n 0, 1) := by decide +kernel
theorem dX3_readNumber_53 : decode cX3_readNumber 53 = .ok (.dup, 1) := by decide +kernel
theorem dX3_readNumber_54 : decode cX3_readNumber 54 = .ok (.getfield 29, 3) := by decide +kernel
theorem dX3_readNumber_57 : decode cX3_readNumber 57 = .ok (.iconst 1, 1) := by decide +kernel
theorem dX3_readNumber_58 : decode cX3_readNumber 58 = .ok (.iadd, 1) := by decide +kernel
theorem dX3_readNumber_59 : decode cX3_readNumber 59 = .ok (.putfield 29, 3) := by decide +kernel
theorem dX3_readNumber_62 : decode cX3_readNumber 62 = .ok (.iinc 3 1, 3) := by decide +kernel
theorem dX3_readNumber_65 : decode cX3_readNumber 65 = .ok (.goto (-61), 3) := by decide +kernel
theorem dX3_readNumber_68 : decode cX3_readNumber 68 = .ok (.iload_n 3, 1) := by decide +kernel
theorem dX3_readNumber_69 : decode cX3_readNumber 69 = .ok (.ifCond .ne 7, 3) := by decide +kernel
theorem dX3_readNumber_72 : decode cX3_readNumber 72 = .ok (.iconst (-1), 1) := by decide +kernel
theorem dX3_readNumber_73 : decode cX3_readNumber 73 = .ok (.goto 4, 3) := by decide +kernel
theorem dX3_readNumber_76 : decode cX3_readNumber 76 = .ok (.iload_n 2, 1) := by decide +kernel
theorem dX3_readNumber_77 : decode cX3_readNumber 77 = .ok (.ireturn, 1) := by decide +kernel
theorem dX3_signAt_0 : decode cX3_signAt 0 = .ok (.iload_n 1, 1) := by decide +kernel
theorem dX3_signAt_1 : decode cX3_signAt 1 = .ok (.ifCond .lt 29, 3) := by decide +kernel
theorem dX3_signAt_4 : decode cX3_signAt 4 = .ok (.iload_n 1, 1) := by decide +kernel
theorem dX3_signAt_5 : decode cX3_signAt 5 = .ok (.aload_n 0, 1) := by decide +kernel
theorem dX3_signAt_6 : decode cX3_signAt 6 = .ok (.getfield 15, 3) := by decide +kernel
theorem dX3_signAt_9 : decode cX3_signAt 9 = .ok (.if_icmp .ge 21, 3) := by decide +kernel
theorem dX3_signAt_12 : decode cX3_signAt 12 = .ok (.iload_n 1, 1) := by decide +kernel
theorem dX3_signAt_13 : decode cX3_signAt 13 = .ok (.aload_n 0, 1) := by decide +kernel
theorem dX3_signAt_14 : decode cX3_signAt 14 = .ok (.getfield 9, 3) := by decide +kernel
theorem dX3_signAt_17 : decode cX3_signAt 17 = .ok (.arraylength, 1) := by decide +kernel
theorem dX3_signAt_18 : decode cX3_signAt 18 = .ok (.if_icmp .ge 12, 3) := by decide +kernel
theorem dX3_signAt_21 : decode cX3_signAt 21 = .ok (.aload_n 0, 1) := by decide +kernel
theorem dX3_signAt_22 : decode cX3_signAt 22 = .ok (.getfield 9, 3) := by decide +kernel
theorem dX3_signAt_25 : decode cX3_signAt 25 = .ok (.iload_n 1, 1) := by decide +kernel
theorem dX3_signAt_26 : decode cX3_signAt 26 = .ok (.caload, 1) := by decide +kernel
theorem dX3_signAt_27 : decode cX3_signAt 27 = .ok (.goto 4, 3) := by decide +kernel
theorem dX3_signAt_30 : decode cX3_signAt 30 = .ok (.iconst 0, 1) := by decide +kernel
theorem dX3_signAt_31 : decode cX3_signAt 31 = .ok (.ireturn, 1) := by decide +kernel
theorem dX5_init_0 : decode cX5_init 0 = .ok (.aload_n 0, 1) := by decide +kernel
theorem dX5_init_1 : decode cX5_init 1 = .ok (.invokespecial 3, 3) := by decide +kernel
theorem dX5_init_4 : decode cX5_init 4 = .ok (.aload_n 0, 1) := by decide +kernel
theorem dX5_init_5 : decode cX5_init 5 = .ok (.iconst 4, 1) := by decide +kernel
theorem dX5_init_6 : decode cX5_init 6 = .ok (.newarray .int, 2) := by decide +kernel
theorem dX5_init_8 : decode cX5_init 8 = .ok (.dup, 1) := by decide +kernel
theorem dX5_init_9 : decode cX5_init 9 = .ok (.iconst 0, 1) := by decide +kernel
theorem dX5_init_10 : decode cX5_init 10 = .ok (.ldc 9, 2) := by decide +kernel
theorem dX5_init_12 : decode cX5_init 12 = .ok (.iastore, 1) := by decide +kernel
theorem dX5_init_13 : decode cX5_init 13 = .ok (.dup, 1) := by decide +kernel
theorem dX5_init_14 : decode cX5_init 14 = .ok (.iconst 1, 1) := by decide +kernel
theorem dX5_init_15 : decode cX5_init 15 = .ok (.ldc 10, 2) := by decide +kernel
theorem dX5_init_17 : decode cX5_init 17 = .ok (.iastore, 1) := by decide +kernel
theorem dX5_init_18 : decode cX5_init 18 = .ok (.dup, 1) := by decide +kernel
theorem dX5_init_19 : decode cX5_init 19 = .ok (.iconst 2, 1) := by decide +kernel
theorem dX5_init_20 : decode cX5_init 20 = .ok (.ldc 11, 2) := by decide +kernel
theorem dX5_init_22 : decode cX5_init 22 = .ok (.iastore, 1) := by decide +kernel
theorem dX5_init_23 : decode cX5_init 23 = .ok (.dup, 1) := by decide +kernel
theorem dX5_init_24 : decode cX5_init 24 = .ok (.iconst 3, 1) := by decide +kernel
theorem dX5_init_25 : decode cX5_init 25 = .ok (.ldc 12, 2) := by decide +kernel
theorem dX5_init_27 : decode cX5_init 27 = .ok (.iastore, 1) := by decide +kernel
theorem dX5_init_28 : decode cX5_init 28 = .ok (.putfield 13, 3) := by decide +kernel
theorem dX5_init_31 : decode cX5_init 31 = .ok (.aload_n 0, 1) := by decide +kernel
theorem dX5_init_32 : decode cX5_init 32 = .ok (.iconst 4, 1) := by decide +kernel
theorem dX5_init_33 : decode cX5_init 33 = .ok (.newarray .int, 2) := by decide +kernel
theorem dX5_init_35 : decode cX5_init 35 = .ok (.putfield 19, 3) := by decide +kernel
theorem dX5_init_38 : decode cX5_init 38 = .ok (.aload_n 0, 1) := by decide +kernel
theorem dX5_init_39 : decode cX5_init 39 = .ok (.iconst 4, 1) := by decide +kernel
theorem dX5_init_40 : decode cX5_init 40 = .ok (.newarray .int, 2) := by decide +kernel
theorem dX5_init_42 : decode cX5_init 42 = .ok (.putfield 22, 3) := by decide +kernel
theorem dX5_init_45 : decode cX5_init 45 = .ok (.aload_n 0, 1) := by decide +kernel
theorem dX5_init_46 : decode cX5_init 46 = .ok (.iconst 4, 1) := by decide +kernel
theorem dX5_init_47 : decode cX5_init 47 = .ok (.newarray .int, 2) := by decide +kernel
theorem dX5_init_49 : decode cX5_init 49 = .ok (.putfield 25, 3) := by decide +kernel
theorem dX5_init_52 : decode cX5_init 52 = .ok (.aload_n 0, 1) := by decide +kernel
theorem dX5_init_53 : decode cX5_init 53 = .ok (.iconst 4, 1) := by decide +kernel
theorem dX5_init_54 : decode cX5_init 54 = .ok (.newarray .int, 2) := by decide +kernel
theorem dX5_init_56 : decode cX5_init 56 = .ok (.putfield 28, 3) := by decide +kernel
theorem dX5_init_59 : decode cX5_init 59 = .ok (.aload_n 0, 1) := by decide +kernel
theorem dX5_init_60 : decode cX5_init 60 = .ok (.iconst 4, 1) := by decide +kernel
theorem dX5_init_61 : decode cX5_init 61 = .ok (.newarray .int, 2) := by decide +kernel
theorem dX5_init_63 : decode cX5_init 63 = .ok (.putfield 31, 3) := by decide +kernel
theorem dX5_init_66 : decode cX5_init 66 = .ok (.aload_n 0, 1) := by decide +kernel
theorem dX5_init_67 : decode cX5_init 67 = .ok (.bipush 48, 2) := by decide +kernel
theorem dX5_init_69 : decode cX5_init 69 = .ok (.newarray .int, 2) := by decide +kernel
theorem dX5_init_71 : decode cX5_init 71 = .ok (.putfield 34, 3) := by decide +kernel
theorem dX5_init_74 : decode cX5_init 74 = .ok (.return_, 1) := by decide +kernel
theorem dX5_copyFrom_0 : decode cX5_copyFrom 0 = .ok (.aload_n 1, 1) := by decide +kernel
theorem dX5_copyFrom_1 : decode cX5_copyFrom 1 = .ok (.getfield 13, 3) := by decide +kernel
theorem dX5_copyFrom_4 : decode cX5_copyFrom 4 = .ok (.iconst 0, 1) := by decide +kernel
theorem dX5_copyFrom_5 : decode cX5_copyFrom 5 = .ok (.aload_n 0, 1) := by decide +kernel
theorem dX5_copyFrom_6 : decode cX5_copyFrom 6 = .ok (.getfield 13, 3) := by decide +kernel
theorem dX5_copyFrom_9 : decode cX5_copyFrom 9 = .ok (.iconst 0, 1) := by decide +kernel
theorem dX5_copyFrom_10 : decode cX5_copyFrom 10 = .ok (.iconst 4, 1) := by decide +kernel
theorem dX5_copyFrom_11 : decode cX5_copyFrom 11 = .ok (.invokestatic 37, 3) := by decide +kernel
theorem dX5_copyFrom_14 : decode cX5_copyFrom 14 = .ok (.aload_n 1, 1) := by decide +kernel
theorem dX5_copyFrom_15 : decode cX5_copyFrom 15 = .ok (.getfield 19, 3) := by decide +kernel
theorem dX5_copyFrom_18 : decode cX5_copyFrom 18 = .ok (.iconst 0, 1) := by decide +kernel
theorem dX5_copyFrom_19 : decode cX5_copyFrom 19 = .ok (.aload_n 0, 1) := by decide +kernel
theorem dX5_copyFrom_20 : decode cX5_copyFrom 20 = .ok (.getfield 19, 3) := by decide +kernel
theorem dX5_copyFrom_23 : decode cX5_copyFrom 23 = .ok (.iconst 0, 1) := by decide +kernel
theorem dX5_copyFrom_24 : decode cX5_copyFrom 24 = .ok (.iconst 4, 1) := by decide +kernel
theorem dX5_copyFrom_25 : decode cX5_copyFrom 25 = .ok (.invokestatic 37, 3) := by decide +kernel
theorem dX5_copyFrom_28 : decode cX5_copyFrom 28 = .ok (.aload_n 1, 1) := by decide +kernel
theorem dX5_copyFrom_29 : decode cX5_copyFrom 29 = .ok (.getfield 22, 3) := by decide +kernel
theorem dX5_copyFrom_32 : decode cX5_copyFrom 32 = .ok (.iconst 0, 1) := by decide +kernel
theorem dX5_copyFrom_33 : decode cX5_copyFrom 33 = .ok (.aload_n 0, 1) := by decide +kernel
theorem dX5_copyFrom_34 : decode cX5_copyFrom 34 = .ok (.getfield 22, 3) := by decide +kernel
theorem dX5_copyFrom_37 : decode cX5_copyFrom 37 = .ok (.iconst 0, 1) := by decide +kernel
theorem dX5_copyFrom_38 : decode cX5_copyFrom 38 = .ok (.iconst 4, 1) := by decide +kernel
theorem dX5_copyFrom_39 : decode cX5_copyFrom 39 = .ok (.invokestatic 37, 3) := by decide +kernel
theorem dX5_copyFrom_42 : decode cX5_copyFrom 42 = .ok (.aload_n 1, 1) := by decide +kernel
theorem dX5_copyFrom_43 : decode cX5_copyFrom 43 = .ok (.getfield 25, 3) := by decide +kernel
theorem dX5_copyFrom_46 : decode cX5_copyFrom 46 = .ok (.iconst 0, 1) := by decide +kernel
theorem dX5_copyFrom_47 : decode cX5_copyFrom 47 = .ok (.aload_n 0, 1) := by decide +kernel
theorem dX5_copyFrom_48 : decode cX5_copyFrom 48 = .ok (.getfield 25, 3) := by decide +kernel
theorem dX5_copyFrom_51 : decode cX5_copyFrom 51 = .ok (.iconst 0, 1) := by decide +kernel
theorem dX5_copyFrom_52 : decode cX5_copyFrom 52 = .ok (.iconst 4, 1) := by decide +kernel
theorem dX5_copyFrom_53 : decode cX5_copyFrom 53 = .ok (.invokestatic 37, 3) := by decide +kernel
theorem dX5_copyFrom_56 : decode cX5_copyFrom 56 = .ok (.aload_n 1, 1) := by decide +kernel
theorem dX5_copyFrom_57 : decode cX5_copyFrom 57 = .ok (.getfield 28, 3) := by decide +kernel
theorem dX5_copyFrom_60 : decode cX5_copyFrom 60 = .ok (.iconst 0, 1) := by decide +kernel
theorem dX5_copyFrom_61 : decode cX5_copyFrom 61 = .ok (.aload_n 0, 1) := by decide +kernel
theorem dX5_copyFrom_62 : decode cX5_copyFrom 62 = .ok (.getfield 28, 3) := by decide +kernel
theorem dX5_copyFrom_65 : decode cX5_copyFrom 65 = .ok (.iconst 0, 1) := by decide +kernel
theorem dX5_copyFrom_66 : decode cX5_copyFrom 66 = .ok (.iconst 4, 1) := by decide +kernel
theorem dX5_copyFrom_67 : decode cX5_copyFrom 67 = .ok (.invokestatic 37, 3) := by decide +kernel
theorem dX5_copyFrom_70 : decode cX5_copyFrom 70 = .ok (.aload_n 1, 1) := by decide +kernel
theorem dX5_copyFrom_71 : decode cX5_copyFrom 71 = .ok (.getfield 31, 3) := by decide +kernel
theorem dX5_copyFrom_74 : decode cX5_copyFrom 74 = .ok (.iconst 0, 1) := by decide +kernel
theorem dX5_copyFrom_75 : decode cX5_copyFrom 75 = .ok (.aload_n 0, 1) := by decide +kernel
theorem dX5_copyFrom_76 : decode cX5_copyFrom 76 = .ok (.getfield 31, 3) := by decide +kernel
theorem dX5_copyFrom_79 : decode cX5_copyFrom 79 = .ok (.iconst 0, 1) := by decide +kernel
theorem dX5_copyFrom_80 : decode cX5_copyFrom 80 = .ok (.iconst 4, 1) := by decide +kernel
theorem dX5_copyFrom_81 : decode cX5_copyFrom 81 = .ok (.invokestatic 37, 3) := by decide +kernel
theorem dX5_copyFrom_84 : decode cX5_copyFrom 84 = .ok (.aload_n 1, 1) := by decide +kernel
theorem dX5_copyFrom_85 : decode cX5_copyFrom 85 = .ok (.getfield 34, 3) := by decide +kernel
theorem dX5_copyFrom_88 : decode cX5_copyFrom 88 = .ok (.iconst 0, 1) := by decide +kernel
theorem dX5_copyFrom_89 : decode cX5_copyFrom 89 = .ok (.aload_n 0, 1) := by decide +kernel
theorem dX5_copyFrom_90 : decode cX5_copyFrom 90 = .ok (.getfield 34, 3) := by decide +kernel
theorem dX5_copyFrom_93 : decode cX5_copyFrom 93 = .ok (.iconst 0, 1) := by decide +kernel
theorem dX5_copyFrom_94 : decode cX5_copyFrom 94 = .ok (.bipush 48, 2) := by decide +kernel
theorem dX5_copyFrom_96 : decode cX5_copyFrom 96 = .ok (.invokestatic 37, 3) := by decide +kernel
theorem dX5_copyFrom_99 : decode cX5_copyFrom 99 = .ok (.return_, 1) := by decide +kernel
theorem dX5_soundingLength_0 : decode cX5_soundingLength 0 = .ok (.sipush 2520, 3) := by decide +kernel
theorem dX5_soundingLength_3 : decode cX5_soundingLength 3 = .ok (.aload_n 0, 1) := by decide +kernel
theorem dX5_soundingLength_4 : decode cX5_soundingLength 4 = .ok (.getfield 31, 3) := by decide +kernel
theorem dX5_soundingLength_7 : decode cX5_soundingLength 7 = .ok (.iload_n 1, 1) := by decide +kernel
theorem dX5_soundingLength_8 : decode cX5_soundingLength 8 = .ok (.iaload, 1) := by decide +kernel
theorem dX5_soundingLength_9 : decode cX5_soundingLength 9 = .ok (.isub, 1) := by decide +kernel
theorem dX5_soundingLength_10 : decode cX5_soundingLength 10 = .ok (.ireturn, 1) := by decide +kernel
theorem dX5_buzzes_0 : decode cX5_buzzes 0 = .ok (.aload_n 0, 1) := by decide +kernel
theorem dX5_buzzes_1 : decode cX5_buzzes 1 = .ok (.getfield 28, 3) := by decide +kernel
theorem dX5_buzzes_4 : decode cX5_buzzes 4 = .ok (.iload_n 1, 1) := by decide +kernel
theorem dX5_buzzes_5 : decode cX5_buzzes 5 = .ok (.iaload, 1) := by decide +kernel
theorem dX5_buzzes_6 : decode cX5_buzzes 6 = .ok (.aload_n 0, 1) := by decide +kernel
theorem dX5_buzzes_7 : decode cX5_buzzes 7 = .ok (.getfield 19, 3) := by decide +kernel
theorem dX5_buzzes_10 : decode cX5_buzzes 10 = .ok (.iload_n 1, 1) := by decide +kernel
theorem dX5_buzzes_11 : decode cX5_buzzes 11 = .ok (.iaload, 1) := by decide +kernel
theorem dX5_buzzes_12 : decode cX5_buzzes 12 = .ok (.if_icmp .eq 7, 3) := by decide +kernel
theorem dX5_buzzes_15 : decode cX5_buzzes 15 = .ok (.iconst 1, 1) := by decide +kernel
theorem dX5_buzzes_16 : decode cX5_buzzes 16 = .ok (.goto 4, 3) := by decide +kernel
theorem dX5_buzzes_19 : decode cX5_buzzes 19 = .ok (.iconst 0, 1) := by decide +kernel
theorem dX5_buzzes_20 : decode cX5_buzzes 20 = .ok (.ireturn, 1) := by decide +kernel
theorem dX5_amplitudeOf_0 : decode cX5_amplitudeOf 0 = .ok (.aload_n 0, 1) := by decide +kernel
theorem dX5_amplitudeOf_1 : decode cX5_amplitudeOf 1 = .ok (.getfield 34, 3) := by decide +kernel
theorem dX5_amplitudeOf_4 : decode cX5_amplitudeOf 4 = .ok (.iload_n 1, 1) := by decide +kernel
theorem dX5_amplitudeOf_5 : decode cX5_amplitudeOf 5 = .ok (.bipush 12, 2) := by decide +kernel
theorem dX5_amplitudeOf_7 : decode cX5_amplitudeOf 7 = .ok (.imul, 1) := by decide +kernel
theorem dX5_amplitudeOf_8 : decode cX5_amplitudeOf 8 = .ok (.iload_n 2, 1) := by decide +kernel
theorem dX5_amplitudeOf_9 : decode cX5_amplitudeOf 9 = .ok (.iadd, 1) := by decide +kernel
theorem dX5_amplitudeOf_10 : decode cX5_amplitudeOf 10 = .ok (.iconst 1, 1) := by decide +kernel
theorem dX5_amplitudeOf_11 : decode cX5_amplitudeOf 11 = .ok (.isub, 1) := by decide +kernel
theorem dX5_amplitudeOf_12 : decode cX5_amplitudeOf 12 = .ok (.iaload, 1) := by decide +kernel
theorem dX5_amplitudeOf_13 : decode cX5_amplitudeOf 13 = .ok (.ireturn, 1) := by decide +kernel
theorem dX5_setAmplitude_0 : decode cX5_setAmplitude 0 = .ok (.aload_n 0, 1) := by decide +kernel
theorem dX5_setAmplitude_1 : decode cX5_setAmplitude 1 = .ok (.getfield 34, 3) := by decide +kernel
theorem dX5_setAmplitude_4 : decode cX5_setAmplitude 4 = .ok (.iload_n 1, 1) := by decide +kernel
theorem dX5_setAmplitude_5 : decode cX5_setAmplitude 5 = .ok (.bipush 12, 2) := by decide +kernel
theorem dX5_setAmplitude_7 : decode cX5_setAmplitude 7 = .ok (.imul, 1) := by decide +kernel
theorem dX5_setAmplitude_8 : decode cX5_setAmplitude 8 = .ok (.iload_n 2, 1) := by decide +kernel
theorem dX5_setAmplitude_9 : decode cX5_setAmplitude 9 = .ok (.iadd, 1) := by decide +kernel
theorem dX5_setAmplitude_10 : decode cX5_setAmplitude 10 = .ok (.iconst 1, 1) := by decide +kernel
theorem dX5_setAmplitude_11 : decode cX5_setAmplitude 11 = .ok (.isub, 1) := by decide +kernel
theorem dX5_setAmplitude_12 : decode cX5_setAmplitude 12 = .ok (.iload_n 3, 1) := by decide +kernel
theorem dX5_setAmplitude_13 : decode cX5_setAmplitude 13 = .ok (.iastore, 1) := by decide +kernel
theorem dX5_setAmplitude_14 : decode cX5_setAmplitude 14 = .ok (.return_, 1) := by decide +kernel
set_option maxRecDepth 20000 in
theorem ggX5_sumOfAmplitudes_X5_amplitudeOf : GoodIn wsX5_sumOfAmplitudes wsX5_amplitudeOf := goodIn_r _ [5, 6, 7, 8, 9, 10, 11, 12, 13] (by decide +kernel) (by decide +kernel)
set_option maxRecDepth 20000 in
theorem gX5_sumOfAmplitudes_X5_amplitudeOf : GoodIn wsX5_sumOfAmplitudes (wsV RX5 43 RX5 yX5_amplitudeOf wsX5_amplitudeOf) := goodIn_app (goodIn_of _ (by decide +kernel)) ggX5_sumOfAmplitudes_X5_amplitudeOf
theorem dX5_sumOfAmplitudes_0 : decode cX5_sumOfAmplitudes 0 = .ok (.iconst 0, 1) := by decide +kernel
theorem dX5_sumOfAmplitudes_1 : decode cX5_sumOfAmplitudes 1 = .ok (.istore_n 2, 1) := by decide +kernel
theorem dX5_sumOfAmplitudes_2 : decode cX5_sumOfAmplitudes 2 = .ok (.iconst 1, 1) := by decide +kernel
theorem dX5_sumOfAmplitudes_3 : decode cX5_sumOfAmplitudes 3 = .ok (.istore_n 3, 1) := by decide +kernel
theorem dX5_sumOfAmplitudes_4 : decode cX5_sumOfAmplitudes 4 = .ok (.iload_n 3, 1) := by decide +kernel
theorem dX5_sumOfAmplitudes_5 : decode cX5_sumOfAmplitudes 5 = .ok (.bipush 12, 2) := by decide +kernel
theorem dX5_sumOfAmplitudes_7 : decode cX5_sumOfAmplitudes 7 = .ok (.if_icmp .gt 18, 3) := by decide +kernel
theorem dX5_sumOfAmplitudes_10 : decode cX5_sumOfAmplitudes 10 = .ok (.iload_n 2, 1) := by decide +kernel
theorem dX5_sumOfAmplitudes_11 : decode cX5_sumOfAmplitudes 11 = .ok (.aload_n 0, 1) := by decide +kernel
theorem dX5_sumOfAmplitudes_12 : decode cX5_sumOfAmplitudes 12 = .ok (.iload_n 1, 1) := by decide +kernel
theorem dX5_sumOfAmplitudes_13 : decode cX5_sumOfAmplitudes 13 = .ok (.iload_n 3, 1) := by decide +kernel
theorem dX5_sumOfAmplitudes_14 : decode cX5_sumOfAmplitudes 14 = .ok (.invokevirtual 43, 3) := by decide +kernel
theorem dX5_sumOfAmplitudes_17 : decode cX5_sumOfAmplitudes 17 = .ok (.iadd, 1) := by decide +kernel
theorem dX5_sumOfAmplitudes_18 : decode cX5_sumOfAmplitudes 18 = .ok (.istore_n 2, 1) := by decide +kernel
theorem dX5_sumOfAmplitudes_19 : decode cX5_sumOfAmplitudes 19 = .ok (.iinc 3 1, 3) := by decide +kernel
theorem dX5_sumOfAmplitudes_22 : decode cX5_sumOfAmplitudes 22 = .ok (.goto (-18), 3) := by decide +kernel
theorem dX5_sumOfAmplitudes_25 : decode cX5_sumOfAmplitudes 25 = .ok (.iload_n 2, 1) := by decide +kernel
theorem dX5_sumOfAmplitudes_26 : decode cX5_sumOfAmplitudes 26 = .ok (.ireturn, 1) := by decide +kernel
set_option maxRecDepth 20000 in
theorem ggX5_quieten_X5_setAmplitude : GoodIn wsX5_quieten wsX5_setAmplitude := goodIn_r _ [5, 6, 7, 8, 9, 10, 11, 12, 13] (by decide +kernel) (by decide +kernel)
set_option maxRecDepth 20000 in
theorem gX5_quieten_X5_setAmplitude : GoodIn wsX5_quieten (wsV RX5 47 RX5 yX5_setAmplitude wsX5_setAmplitude) := goodIn_app (goodIn_of _ (by decide +kernel)) ggX5_quieten_X5_setAmplitude
theorem dX5_quieten_0 : decode cX5_quieten 0 = .ok (.iconst 1, 1) := by decide +kernel
theorem dX5_quieten_1 : decode cX5_quieten 1 = .ok (.istore_n 2, 1) := by decide +kernel
theorem dX5_quieten_2 : decode cX5_quieten 2 = .ok (.iload_n 2, 1) := by decide +kernel
theorem dX5_quieten_3 : decode cX5_quieten 3 = .ok (.bipush 12, 2) := by decide +kernel
theorem dX5_quieten_5 : decode cX5_quieten 5 = .ok (.if_icmp .gt 16, 3) := by decide +kernel
theorem dX5_quieten_8 : decode cX5_quieten 8 = .ok (.aload_n 0, 1) := by decide +kernel
theorem dX5_quieten_9 : decode cX5_quieten 9 = .ok (.iload_n 1, 1) := by decide +kernel
theorem dX5_quieten_10 : decode cX5_quieten 10 = .ok (.iload_n 2, 1) := by decide +kernel
theorem dX5_quieten_11 : decode cX5_quieten 11 = .ok (.iconst 0, 1) := by decide +kernel
theorem dX5_quieten_12 : decode cX5_quieten 12 = .ok (.invokevirtual 47, 3) := by decide +kernel
theorem dX5_quieten_15 : decode cX5_quieten 15 = .ok (.iinc 2 1, 3) := by decide +kernel
theorem dX5_quieten_18 : decode cX5_quieten 18 = .ok (.goto (-16), 3) := by decide +kernel
theorem dX5_quieten_21 : decode cX5_quieten 21 = .ok (.return_, 1) := by decide +kernel
set_option maxRecDepth 20000 in
theorem ggX5_soundFrom_X5_quieten : GoodIn wsX5_soundFrom wsX5_quieten := goodIn_r _ [7, 8, 9, 10, 6, 11, 12, 13, 14, 15, 16, 17, 18, 19] (by decide +kernel) (by decide +kernel)
set_option maxRecDepth 20000 in
theorem gX5_soundFrom_X5_quieten : GoodIn wsX5_soundFrom (wsV RX5 51 RX5 yX5_quieten wsX5_quieten) := goodIn_app (goodIn_of _ (by decide +kernel)) ggX5_soundFrom_X5_quieten
theorem dX5_soundFrom_0 : decode cX5_soundFrom 0 = .ok (.aload_n 0, 1) := by decide +kernel
theorem dX5_soundFrom_1 : decode cX5_soundFrom 1 = .ok (.getfield 31, 3) := by decide +kernel
theorem dX5_soundFrom_4 : decode cX5_soundFrom 4 = .ok (.iload_n 1, 1) := by decide +kernel
theorem dX5_soundFrom_5 : decode cX5_soundFrom 5 = .ok (.iaload, 1) := by decide +kernel
theorem dX5_soundFrom_6 : decode cX5_soundFrom 6 = .ok (.iload_n 3, 1) := by decide +kernel
theorem dX5_soundFrom_7 : decode cX5_soundFrom 7 = .ok (.if_icmp .eq 8, 3) := by decide +kernel
theorem dX5_soundFrom_10 : decode cX5_soundFrom 10 = .ok (.aload_n 0, 1) := by decide +kernel
theorem dX5_soundFrom_11 : decode cX5_soundFrom 11 = .ok (.iload_n 1, 1) := by decide +kernel
theorem dX5_soundFrom_12 : decode cX5_soundFrom 12 = .ok (.invokevirtual 51, 3) := by decide +kernel
theorem dX5_soundFrom_15 : decode cX5_soundFrom 15 = .ok (.aload_n 0, 1) := by decide +kernel
theorem dX5_soundFrom_16 : decode cX5_soundFrom 16 = .ok (.getfield 28, 3) := by decide +kernel
theorem dX5_soundFrom_19 : decode cX5_soundFrom 19 = .ok (.iload_n 1, 1) := by decide +kernel
theorem dX5_soundFrom_20 : decode cX5_soundFrom 20 = .ok (.iload_n 2, 1) := by decide +kernel
theorem dX5_soundFrom_21 : decode cX5_soundFrom 21 = .ok (.iastore, 1) := by decide +kernel
theorem dX5_soundFrom_22 : decode cX5_soundFrom 22 = .ok (.aload_n 0, 1) := by decide +kernel
theorem dX5_soundFrom_23 : decode cX5_soundFrom 23 = .ok (.getfield 31, 3) := by decide +kernel
theorem dX5_soundFrom_26 : decode cX5_soundFrom 26 = .ok (.iload_n 1, 1) := by decide +kernel
theorem dX5_soundFrom_27 : decode cX5_soundFrom 27 = .ok (.iload_n 3, 1) := by decide +kernel
theorem dX5_soundFrom_28 : decode cX5_soundFrom 28 = .ok (.iastore, 1) := by decide +kernel
theorem dX5_soundFrom_29 : decode cX5_soundFrom 29 = .ok (.return_, 1) := by decide +kernel
theorem dX5_makeRoomFor_0 : decode cX5_makeRoomFor 0 = .ok (.iconst 0, 1) := by decide +kernel
theorem dX5_makeRoomFor_1 : decode cX5_makeRoomFor 1 = .ok (.istore_n 2, 1) := by decide +kernel
theorem dX5_makeRoomFor_2 : decode cX5_makeRoomFor 2 = .ok (.iload_n 2, 1) := by decide +kernel
theorem dX5_makeRoomFor_3 : decode cX5_makeRoomFor 3 = .ok (.iconst 4, 1) := by decide +kernel
theorem dX5_makeRoomFor_4 : decode cX5_makeRoomFor 4 = .ok (.if_icmp .ge 29, 3) := by decide +kernel
theorem dX5_makeRoomFor_7 : decode cX5_makeRoomFor 7 = .ok (.aload_n 0, 1) := by decide +kernel
theorem dX5_makeRoomFor_8 : decode cX5_makeRoomFor 8 = .ok (.getfield 19, 3) := by decide +kernel
theorem dX5_makeRoomFor_11 : decode cX5_makeRoomFor 11 = .ok (.iload_n 2, 1) := by decide +kernel
theorem dX5_makeRoomFor_12 : decode cX5_makeRoomFor 12 = .ok (.iaload, 1) := by decide +kernel
theorem dX5_makeRoomFor_13 : decode cX5_makeRoomFor 13 = .ok (.iload_n 1, 1) := by decide +kernel
theorem dX5_makeRoomFor_14 : decode cX5_makeRoomFor 14 = .ok (.if_icmp .lt 13, 3) := by decide +kernel
theorem dX5_makeRoomFor_17 : decode cX5_makeRoomFor 17 = .ok (.aload_n 0, 1) := by decide +kernel
theorem dX5_makeRoomFor_18 : decode cX5_makeRoomFor 18 = .ok (.getfield 19, 3) := by decide +kernel
theorem dX5_makeRoomFor_21 : decode cX5_makeRoomFor 21 = .ok (.iload_n 2, 1) := by decide +kernel
theorem dX5_makeRoomFor_22 : decode cX5_makeRoomFor 22 = .ok (.dup2, 1) := by decide +kernel
theorem dX5_makeRoomFor_23 : decode cX5_makeRoomFor 23 = .ok (.iaload, 1) := by decide +kernel
theorem dX5_makeRoomFor_24 : decode cX5_makeRoomFor 24 = .ok (.iconst 1, 1) := by decide +kernel
theorem dX5_makeRoomFor_25 : decode cX5_makeRoomFor 25 = .ok (.iadd, 1) := by decide +kernel
theorem dX5_makeRoomFor_26 : decode cX5_makeRoomFor 26 = .ok (.iastore, 1) := by decide +kernel
theorem dX5_makeRoomFor_27 : decode cX5_makeRoomFor 27 = .ok (.iinc 2 1, 3) := by decide +kernel
theorem dX5_makeRoomFor_30 : decode cX5_makeRoomFor 30 = .ok (.goto (-28), 3) := by decide +kernel
theorem dX5_makeRoomFor_33 : decode cX5_makeRoomFor 33 = .ok (.return_, 1) := by decide +kernel
set_option maxRecDepth 20000 in
theorem ggX5_maskPressedAt_X5_maskOf : GoodIn wsX5_maskPressedAt wsX5_maskOf := goodIn_r _ [5] (by decide +kernel) (by decide +kernel)
set_option maxRecDepth 20000 in
theorem gX5_maskPressedAt_X5_maskOf : GoodIn wsX5_maskPressedAt (va_wsS RX5 55 yX5_maskOf wsX5_maskOf) := goodIn_app (goodIn_of _ (by decide +kernel)) ggX5_maskPressedAt_X5_maskOf
theorem dX5_maskPressedAt_0 : decode cX5_maskPressedAt 0 = .ok (.aload_n 0, 1) := by decide +kernel
theorem dX5_maskPressedAt_1 : decode cX5_maskPressedAt 1 = .ok (.getfield 19, 3) := by decide +kernel
theorem dX5_maskPressedAt_4 : decode cX5_maskPressedAt 4 = .ok (.iload_n 1, 1) := by decide +kernel
theorem dX5_maskPressedAt_5 : decode cX5_maskPressedAt 5 = .ok (.invokestatic 55, 3) := by decide +kernel
theorem dX5_maskPressedAt_8 : decode cX5_maskPressedAt 8 = .ok (.ireturn, 1) := by decide +kernel
set_option maxRecDepth 20000 in
theorem ggX5_maskSoundingFrom_X5_maskOf : GoodIn wsX5_maskSoundingFrom wsX5_maskOf := goodIn_r _ [5] (by decide +kernel) (by decide +kernel)
set_option maxRecDepth 20000 in
theorem gX5_maskSoundingFrom_X5_maskOf : GoodIn wsX5_maskSoundingFrom (va_wsS RX5 55 yX5_maskOf wsX5_maskOf) := goodIn_app (goodIn_of _ (by decide +kernel)) ggX5_maskSoundingFrom_X5_maskOf
theorem dX5_maskSoundingFrom_0 : decode cX5_maskSoundingFrom 0 = .ok (.aload_n 0, 1) := by decide +kernel
theorem dX5_maskSoundingFrom_1 : decode cX5_maskSoundingFrom 1 = .ok (.getfield 28, 3) := by decide +kernel
theorem dX5_maskSoundingFrom_4 : decode cX5_maskSoundingFrom 4 = .ok (.iload_n 1, 1) := by decide +kernel
theorem dX5_maskSoundingFrom_5 : decode cX5_maskSoundingFrom 5 = .ok (.invokestatic 55, 3) := by decide +kernel
theorem dX5_maskSoundingFrom_8 : decode cX5_maskSoundingFrom 8 = .ok (.ireturn, 1) := by decide +kernel
theorem dX5_maskOf_0 : decode cX5_maskOf 0 = .ok (.iconst 0, 1) := by decide +kernel
theorem dX5_maskOf_1 : decode cX5_maskOf 1 = .ok (.istore_n 2, 1) := by decide +kernel
theorem dX5_maskOf_2 : decode cX5_maskOf 2 = .ok (.iconst 0, 1) := by decide +kernel
theorem dX5_maskOf_3 : decode cX5_maskOf 3 = .ok (.istore_n 3, 1) := by decide +kernel
theorem dX5_maskOf_4 : decode cX5_maskOf 4 = .ok (.iload_n 3, 1) := by decide +kernel
theorem dX5_maskOf_5 : decode cX5_maskOf 5 = .ok (.aload_n 0, 1) := by decide +kernel
theorem dX5_maskOf_6 : decode cX5_maskOf 6 = .ok (.arraylength, 1) := by decide +kernel
theorem dX5_maskOf_7 : decode cX5_maskOf 7 = .ok (.if_icmp .ge 22, 3) := by decide +kernel
theorem dX5_maskOf_10 : decode cX5_maskOf 10 = .ok (.aload_n 0, 1) := by decide +kernel
theorem dX5_maskOf_11 : decode cX5_maskOf 11 = .ok (.iload_n 3, 1) := by decide +kernel
theorem dX5_maskOf_12 : decode cX5_maskOf 12 = .ok (.iaload, 1) := by decide +kernel
theorem dX5_maskOf_13 : decode cX5_maskOf 13 = .ok (.iload_n 1, 1) := by decide +kernel
theorem dX5_maskOf_14 : decode cX5_maskOf 14 = .ok (.if_icmp .ne 9, 3) := by decide +kernel
theorem dX5_maskOf_17 : decode cX5_maskOf 17 = .ok (.iload_n 2, 1) := by decide +kernel
theorem dX5_maskOf_18 : decode cX5_maskOf 18 = .ok (.iconst 1, 1) := by decide +kernel
theorem dX5_maskOf_19 : decode cX5_maskOf 19 = .ok (.iload_n 3, 1) := by decide +kernel
theorem dX5_maskOf_20 : decode cX5_maskOf 20 = .ok (.ishl, 1) := by decide +kernel
theorem dX5_maskOf_21 : decode cX5_maskOf 21 = .ok (.ior, 1) := by decide +kernel
theorem dX5_maskOf_22 : decode cX5_maskOf 22 = .ok (.istore_n 2, 1) := by decide +kernel
theorem dX5_maskOf_23 : decode cX5_maskOf 23 = .ok (.iinc 3 1, 3) := by decide +kernel
theorem dX5_maskOf_26 : decode cX5_maskOf 26 = .ok (.goto (-22), 3) := by decide +kernel
theorem dX5_maskOf_29 : decode cX5_maskOf 29 = .ok (.iload_n 2, 1) := by decide +kernel
theorem dX5_maskOf_30 : decode cX5_maskOf 30 = .ok (.ireturn, 1) := by decide +kernel
set_option maxRecDepth 20000 in
theorem ggX5_buzzing_X5_buzzes : GoodIn wsX5_buzzing wsX5_buzzes := goodIn_r _ [5, 6, 7, 8, 9, 10, 11, 12, 13, 14] (by decide +kernel) (by decide +kernel)
set_option maxRecDepth 20000 in
theorem gX5_buzzing_X5_buzzes : GoodIn wsX5_buzzing (wsV RX5 59 RX5 yX5_buzzes wsX5_buzzes) := goodIn_app (goodIn_of _ (by decide +kernel)) ggX5_buzzing_X5_buzzes
theorem dX5_buzzing_0 : decode cX5_buzzing 0 = .ok (.iconst 0, 1) := by decide +kernel
theorem dX5_buzzing_1 : decode cX5_buzzing 1 = .ok (.istore_n 1, 1) := by decide +kernel
theorem dX5_buzzing_2 : decode cX5_buzzing 2 = .ok (.iconst 0, 1) := by decide +kernel
theorem dX5_buzzing_3 : decode cX5_buzzing 3 = .ok (.istore_n 2, 1) := by decide +kernel
theorem dX5_buzzing_4 : decode cX5_buzzing 4 = .ok (.iload_n 2, 1) := by decide +kernel
theorem dX5_buzzing_5 : decode cX5_buzzing 5 = .ok (.iconst 4, 1) := by decide +kernel
theorem dX5_buzzing_6 : decode cX5_buzzing 6 = .ok (.if_icmp .ge 25, 3) := by decide +kernel
theorem dX5_buzzing_9 : decode cX5_buzzing 9 = .ok (.iload_n 1, 1) := by decide +kernel
theorem dX5_buzzing_10 : decode cX5_buzzing 10 = .ok (.aload_n 0, 1) := by decide +kernel
theorem dX5_buzzing_11 : decode cX5_buzzing 11 = .ok (.iload_n 2, 1) := by decide +kernel
theorem dX5_buzzing_12 : decode cX5_buzzing 12 = .ok (.invokevirtual 59, 3) := by decide +kernel
theorem dX5_buzzing_15 : decode cX5_buzzing 15 = .ok (.ifCond .eq 7, 3) := by decide +kernel
theorem dX5_buzzing_18 : decode cX5_buzzing 18 = .ok (.iconst 1, 1) := by decide +kernel
theorem dX5_buzzing_19 : decode cX5_buzzing 19 = .ok (.goto 4, 3) := by decide +kernel
theorem dX5_buzzing_22 : decode cX5_buzzing 22 = .ok (.iconst 0, 1) := by decide +kernel
theorem dX5_buzzing_23 : decode cX5_buzzing 23 = .ok (.iadd, 1) := by decide +kernel
theorem dX5_buzzing_24 : decode cX5_buzzing 24 = .ok (.istore_n 1, 1) := by decide +kernel
theorem dX5_buzzing_25 : decode cX5_buzzing 25 = .ok (.iinc 2 1, 3) := by decide +kernel
theorem dX5_buzzing_28 : decode cX5_buzzing 28 = .ok (.goto (-24), 3) := by decide +kernel
theorem dX5_buzzing_31 : decode cX5_buzzing 31 = .ok (.iload_n 1, 1) := by decide +kernel
theorem dX5_buzzing_32 : decode cX5_buzzing 32 = .ok (.ireturn, 1) := by decide +kernel
theorem dX5_plucksInAll_0 : decode cX5_plucksInAll 0 = .ok (.iconst 0, 1) := by decide +kernel
theorem dX5_plucksInAll_1 : decode cX5_plucksInAll 1 = .ok (.istore_n 1, 1) := by decide +kernel
theorem dX5_plucksInAll_2 : decode cX5_plucksInAll 2 = .ok (.iconst 0, 1) := by decide +kernel
theorem dX5_plucksInAll_3 : decode cX5_plucksInAll 3 = .ok (.istore_n 2, 1) := by decide +kernel
theorem dX5_plucksInAll_4 : decode cX5_plucksInAll 4 = .ok (.iload_n 2, 1) := by decide +kernel
theorem dX5_plucksInAll_5 : decode cX5_plucksInAll 5 = .ok (.iconst 4, 1) := by decide +kernel
theorem dX5_plucksInAll_6 : decode cX5_plucksInAll 6 = .ok (.if_icmp .ge 18, 3) := by decide +kernel
theorem dX5_plucksInAll_9 : decode cX5_plucksInAll 9 = .ok (.iload_n 1, 1) := by decide +kernel
theorem dX5_plucksInAll_10 : decode cX5_plucksInAll 10 = .ok (.aload_n 0, 1) := by decide +kernel
theorem dX5_plucksInAll_11 : decode cX5_plucksInAll 11 = .ok (.getfield 25, 3) := by decide +kernel
theorem dX5_plucksInAll_14 : decode cX5_plucksInAll 14 = .ok (.iload_n 2, 1) := by decide +kernel
theorem dX5_plucksInAll_15 : decode cX5_plucksInAll 15 = .ok (.iaload, 1) := by decide +kernel
theorem dX5_plucksInAll_16 : decode cX5_plucksInAll 16 = .ok (.iadd, 1) := by decide +kernel
theorem dX5_plucksInAll_17 : decode cX5_plucksInAll 17 = .ok (.istore_n 1, 1) := by decide +kernel
theorem dX5_plucksInAll_18 : decode cX5_plucksInAll 18 = .ok (.iinc 2 1, 3) := by decide +kernel
theorem dX5_plucksInAll_21 : decode cX5_plucksInAll 21 = .ok (.goto (-17), 3) := by decide +kernel
theorem dX5_plucksInAll_24 : decode cX5_plucksInAll 24 = .ok (.iload_n 1, 1) := by decide +kernel
theorem dX5_plucksInAll_25 : decode cX5_plucksInAll 25 = .ok (.ireturn, 1) := by decide +kernel
set_option maxRecDepth 20000 in
theorem ggX5_pitchOf_X5_soundingLength : GoodIn wsX5_pitchOf wsX5_soundingLength := goodIn_r _ [6, 7, 8, 9, 10, 11, 12, 13, 14] (by decide +kernel) (by decide +kernel)
set_option maxRecDepth 20000 in
theorem gX5_pitchOf_X5_soundingLength : GoodIn wsX5_pitchOf (wsV RX5 63 RX5 yX5_soundingLength wsX5_soundingLength) := goodIn_app (goodIn_of _ (by decide +kernel)) ggX5_pitchOf_X5_soundingLength
theorem dX5_pitchOf_0 : decode cX5_pitchOf 0 = .ok (.aload_n 0, 1) := by decide +kernel
theorem dX5_pitchOf_1 : decode cX5_pitchOf 1 = .ok (.iload_n 1, 1) := by decide +kernel
theorem dX5_pitchOf_2 : decode cX5_pitchOf 2 = .ok (.invokevirtual 63, 3) := by decide +kernel
theorem dX5_pitchOf_5 : decode cX5_pitchOf 5 = .ok (.istore_n 3, 1) := by decide +kernel
theorem dX5_pitchOf_6 : decode cX5_pitchOf 6 = .ok (.iload_n 3, 1) := by decide +kernel
theorem dX5_pitchOf_7 : decode cX5_pitchOf 7 = .ok (.iconst 1, 1) := by decide +kernel
theorem dX5_pitchOf_8 : decode cX5_pitchOf 8 = .ok (.if_icmp .ge 7, 3) := by decide +kernel
theorem dX5_pitchOf_11 : decode cX5_pitchOf 11 = .ok (.iconst 0, 1) := by decide +kernel
theorem dX5_pitchOf_12 : decode cX5_pitchOf 12 = .ok (.goto 13, 3) := by decide +kernel
theorem dX5_pitchOf_15 : decode cX5_pitchOf 15 = .ok (.iload_n 2, 1) := by decide +kernel
theorem dX5_pitchOf_16 : decode cX5_pitchOf 16 = .ok (.aload_n 0, 1) := by decide +kernel
theorem dX5_pitchOf_17 : decode cX5_pitchOf 17 = .ok (.getfield 13, 3) := by decide +kernel
theorem dX5_pitchOf_20 : decode cX5_pitchOf 20 = .ok (.iload_n 1, 1) := by decide +kernel
theorem dX5_pitchOf_21 : decode cX5_pitchOf 21 = .ok (.iaload, 1) := by decide +kernel
theorem dX5_pitchOf_22 : decode cX5_pitchOf 22 = .ok (.imul, 1) := by decide +kernel
theorem dX5_pitchOf_23 : decode cX5_pitchOf 23 = .ok (.iload_n 3, 1) := by decide +kernel
theorem dX5_pitchOf_24 : decode cX5_pitchOf 24 = .ok (.idiv, 1) := by decide +kernel
theorem dX5_pitchOf_25 : decode cX5_pitchOf 25 = .ok (.ireturn, 1) := by decide +kernel
set_option maxRecDepth 20000 in
theorem ggX5_distanceFromNode_X5_soundingLength : GoodIn wsX5_distanceFromNode wsX5_soundingLength := goodIn_r _ [10, 1, 15, 16, 17, 18, 19, 20, 21] (by decide +kernel) (by decide +kernel)
set_option maxRecDepth 20000 in
theorem gX5_distanceFromNode_X5_soundingLength : GoodIn wsX5_distanceFromNode (wsV RX5 63 RX5 yX5_soundingLength wsX5_soundingLength) := goodIn_app (goodIn_of _ (by decide +kernel)) ggX5_distanceFromNode_X5_soundingLength
set_option maxRecDepth 20000 in
theorem ggX5_distanceFromNode_J9_floorMod_7cf53 : GoodIn wsX5_distanceFromNode wsJ9_floorMod_7cf53 := goodIn_r _ [14] (by decide +kernel) (by decide +kernel)
set_option maxRecDepth 20000 in
theorem gX5_distanceFromNode_J9_floorMod_7cf53 : GoodIn wsX5_distanceFromNode (va_wsS RX5 67 yJ9_floorMod_7cf53 wsJ9_floorMod_7cf53) := goodIn_app (goodIn_of _ (by decide +kernel)) ggX5_distanceFromNode_J9_floorMod_7cf53
theorem dX5_distanceFromNode_0 : decode cX5_distanceFromNode 0 = .ok (.aload_n 0, 1) := by decide +kernel
theorem dX5_distanceFromNode_1 : decode cX5_distanceFromNode 1 = .ok (.iload_n 1, 1) := by decide +kernel
theorem dX5_distanceFromNode_2 : decode cX5_distanceFromNode 2 = .ok (.invokevirtual 63, 3) := by decide +kernel
theorem dX5_distanceFromNode_5 : decode cX5_distanceFromNode 5 = .ok (.istore 4, 2) := by decide +kernel
theorem dX5_distanceFromNode_7 : decode cX5_distanceFromNode 7 = .ok (.iload 4, 2) := by decide +kernel
theorem dX5_distanceFromNode_9 : decode cX5_distanceFromNode 9 = .ok (.iconst 1, 1) := by decide +kernel
theorem dX5_distanceFromNode_10 : decode cX5_distanceFromNode 10 = .ok (.if_icmp .ge 5, 3) := by decide +kernel
theorem dX5_distanceFromNode_13 : decode cX5_distanceFromNode 13 = .ok (.iconst 0, 1) := by decide +kernel
theorem dX5_distanceFromNode_14 : decode cX5_distanceFromNode 14 = .ok (.ireturn, 1) := by decide +kernel
theorem dX5_distanceFromNode_15 : decode cX5_distanceFromNode 15 = .ok (.iload_n 2, 1) := by decide +kernel
theorem dX5_distanceFromNode_16 : decode cX5_distanceFromNode 16 = .ok (.iload_n 3, 1) := by decide +kernel
theorem dX5_distanceFromNode_17 : decode cX5_distanceFromNode 17 = .ok (.aload_n 0, 1) := by decide +kernel
theorem dX5_distanceFromNode_18 : decode cX5_distanceFromNode 18 = .ok (.getfield 31, 3) := by decide +kernel
theorem dX5_distanceFromNode_21 : decode cX5_distanceFromNode 21 = .ok (.iload_n 1, 1) := by decide +kernel
theorem dX5_distanceFromNode_22 : decode cX5_distanceFromNode 22 = .ok (.iaload, 1) := by decide +kernel
theorem dX5_distanceFromNode_23 : decode cX5_distanceFromNode 23 = .ok (.isub, 1) := by decide +kernel
theorem dX5_distanceFromNode_24 : decode cX5_distanceFromNode 24 = .ok (.imul, 1) := by decide +kernel
theorem dX5_distanceFromNode_25 : decode cX5_distanceFromNode 25 = .ok (.iload 4, 2) := by decide +kernel
theorem dX5_distanceFromNode_27 : decode cX5_distanceFromNode 27 = .ok (.invokestatic 67, 3) := by decide +kernel
theorem dX5_distanceFromNode_30 : decode cX5_distanceFromNode 30 = .ok (.istore 5, 2) := by decide +kernel
theorem dX5_distanceFromNode_32 : decode cX5_distanceFromNode 32 = .ok (.iload 5, 2) := by decide +kernel
theorem dX5_distanceFromNode_34 : decode cX5_distanceFromNode 34 = .ok (.iload 4, 2) := by decide +kernel
theorem dX5_distanceFromNode_36 : decode cX5_distanceFromNode 36 = .ok (.iload 5, 2) := by decide +kernel
theorem dX5_distanceFromNode_38 : decode cX5_distanceFromNode 38 = .ok (.isub, 1) := by decide +kernel
theorem dX5_distanceFromNode_39 : decode cX5_distanceFromNode 39 = .ok (.invokestatic 72, 3) := by decide +kernel
theorem dX5_distanceFromNode_42 : decode cX5_distanceFromNode 42 = .ok (.ireturn, 1) := by decide +kernel
set_option maxRecDepth 20000 in
theorem ggX5_hasNodeByDivisor_X5_soundingLength : GoodIn wsX5_hasNodeByDivisor wsX5_soundingLength := goodIn_r _ [6, 1, 10, 11, 12, 13, 14, 15, 16] (by decide +kernel) (by decide +kernel)
set_option maxRecDepth 20000 in
theorem gX5_hasNodeByDivisor_X5_soundingLength : GoodIn wsX5_hasNodeByDivisor (wsV RX5 63 RX5 yX5_soundingLength wsX5_soundingLength) := goodIn_app (goodIn_of _ (by decide +kernel)) ggX5_hasNodeByDivisor_X5_soundingLength
set_option maxRecDepth 20000 in
theorem ggX5_hasNodeByDivisor_X6_greatestCommonDivisor : GoodIn wsX5_hasNodeByDivisor wsX6_greatestCommonDivisor := goodIn_r _ [9] (by decide +kernel) (by decide +kernel)
set_option maxRecDepth 20000 in
theorem gX5_hasNodeByDivisor_X6_greatestCommonDivisor_n75 : GoodIn wsX5_hasNodeByDivisor (wsX6_greatestCommonDivisor) := ggX5_hasNodeByDivisor_X6_greatestCommonDivisor
theorem dX5_hasNodeByDivisor_0 : decode cX5_hasNodeByDivisor 0 = .ok (.aload_n 0, 1) := by decide +kernel
theorem dX5_hasNodeByDivisor_1 : decode cX5_hasNodeByDivisor 1 = .ok (.iload_n 1, 1) := by decide +kernel
theorem dX5_hasNodeByDivisor_2 : decode cX5_hasNodeByDivisor 2 = .ok (.invokevirtual 63, 3) := by decide +kernel
theorem dX5_hasNodeByDivisor_5 : decode cX5_hasNodeByDivisor 5 = .ok (.istore 4, 2) := by decide +kernel
theorem dX5_hasNodeByDivisor_7 : decode cX5_hasNodeByDivisor 7 = .ok (.iload 4, 2) := by decide +kernel
theorem dX5_hasNodeByDivisor_9 : decode cX5_hasNodeByDivisor 9 = .ok (.iload_n 3, 1) := by decide +kernel
theorem dX5_hasNodeByDivisor_10 : decode cX5_hasNodeByDivisor 10 = .ok (.aload_n 0, 1) := by decide +kernel
theorem dX5_hasNodeByDivisor_11 : decode cX5_hasNodeByDivisor 11 = .ok (.getfield 31, 3) := by decide +kernel
theorem dX5_hasNodeByDivisor_14 : decode cX5_hasNodeByDivisor 14 = .ok (.iload_n 1, 1) := by decide +kernel
theorem dX5_hasNodeByDivisor_15 : decode cX5_hasNodeByDivisor 15 = .ok (.iaload, 1) := by decide +kernel
theorem dX5_hasNodeByDivisor_16 : decode cX5_hasNodeByDivisor 16 = .ok (.isub, 1) := by decide +kernel
theorem dX5_hasNodeByDivisor_17 : decode cX5_hasNodeByDivisor 17 = .ok (.invokestatic 75, 3) := by decide +kernel
theorem dX5_hasNodeByDivisor_20 : decode cX5_hasNodeByDivisor 20 = .ok (.istore 5, 2) := by decide +kernel
theorem dX5_hasNodeByDivisor_22 : decode cX5_hasNodeByDivisor 22 = .ok (.iload 5, 2) := by decide +kernel
theorem dX5_hasNodeByDivisor_24 : decode cX5_hasNodeByDivisor 24 = .ok (.iconst 1, 1) := by decide +kernel
theorem dX5_hasNodeByDivisor_25 : decode cX5_hasNodeByDivisor 25 = .ok (.if_icmp .ge 7, 3) := by decide +kernel
theorem dX5_hasNodeByDivisor_28 : decode cX5_hasNodeByDivisor 28 = .ok (.iconst 0, 1) := by decide +kernel
theorem dX5_hasNodeByDivisor_29 : decode cX5_hasNodeByDivisor 29 = .ok (.goto 8, 3) := by decide +kernel
theorem dX5_hasNodeByDivisor_32 : decode cX5_hasNodeByDivisor 32 = .ok (.iload 4, 2) := by decide +kernel
theorem dX5_hasNodeByDivisor_34 : decode cX5_hasNodeByDivisor 34 = .ok (.iload 5, 2) := by decide +kernel
theorem dX5_hasNodeByDivisor_36 : decode cX5_hasNodeByDivisor 36 = .ok (.idiv, 1) := by decide +kernel
theorem dX5_hasNodeByDivisor_37 : decode cX5_hasNodeByDivisor 37 = .ok (.istore 6, 2) := by decide +kernel
theorem dX5_hasNodeByDivisor_39 : decode cX5_hasNodeByDivisor 39 = .ok (.iload 6, 2) := by decide +kernel
theorem dX5_hasNodeByDivisor_41 : decode cX5_hasNodeByDivisor 41 = .ok (.ifCond .le 14, 3) := by decide +kernel
theorem dX5_hasNodeByDivisor_44 : decode cX5_hasNodeByDivisor 44 = .ok (.iload_n 2, 1) := by decide +kernel
theorem dX5_hasNodeByDivisor_45 : decode cX5_hasNodeByDivisor 45 = .ok (.iload 6, 2) := by decide +kernel
theorem dX5_hasNodeByDivisor_47 : decode cX5_hasNodeByDivisor 47 = .ok (.irem, 1) := by decide +kernel
theorem dX5_hasNodeByDivisor_48 : decode cX5_hasNodeByDivisor 48 = .ok (.ifCond .ne 7, 3) := by decide +kernel
theorem dX5_hasNodeByDivisor_51 : decode cX5_hasNodeByDivisor 51 = .ok (.iconst 1, 1) := by decide +kernel
theorem dX5_hasNodeByDivisor_52 : decode cX5_hasNodeByDivisor 52 = .ok (.goto 4, 3) := by decide +kernel
theorem dX5_hasNodeByDivisor_55 : decode cX5_hasNodeByDivisor 55 = .ok (.iconst 0, 1) := by decide +kernel
theorem dX5_hasNodeByDivisor_56 : decode cX5_hasNodeByDivisor 56 = .ok (.ireturn, 1) := by decide +kernel
set_option maxRecDepth 20000 in
theorem ggX5_wholeNodes_X5_soundingLength : GoodIn wsX5_wholeNodes wsX5_soundingLength := goodIn_r _ [5, 6, 10, 11, 12, 13, 14, 15, 16] (by decide +kernel) (by decide +kernel)
set_option maxRecDepth 20000 in
theorem gX5_wholeNodes_X5_soundingLength : GoodIn wsX5_wholeNodes (wsV RX5 63 RX5 yX5_soundingLength wsX5_soundingLength) := goodIn_app (goodIn_of _ (by decide +kernel)) ggX5_wholeNodes_X5_soundingLength
set_option maxRecDepth 20000 in
theorem ggX5_wholeNodes_X6_greatestCommonDivisor : GoodIn wsX5_wholeNodes wsX6_greatestCommonDivisor := goodIn_r _ [9] (by decide +kernel) (by decide +kernel)
set_option maxRecDepth 20000 in
theorem gX5_wholeNodes_X6_greatestCommonDivisor_n75 : GoodIn wsX5_wholeNodes (wsX6_greatestCommonDivisor) := ggX5_wholeNodes_X6_greatestCommonDivisor
theorem dX5_wholeNodes_0 : decode cX5_wholeNodes 0 = .ok (.aload_n 0, 1) := by decide +kernel
theorem dX5_wholeNodes_1 : decode cX5_wholeNodes 1 = .ok (.iload_n 1, 1) := by decide +kernel
theorem dX5_wholeNodes_2 : decode cX5_wholeNodes 2 = .ok (.invokevirtual 63, 3) := by decide +kernel
theorem dX5_wholeNodes_5 : decode cX5_wholeNodes 5 = .ok (.iload_n 2, 1) := by decide +kernel
theorem dX5_wholeNodes_6 : decode cX5_wholeNodes 6 = .ok (.invokestatic 75, 3) := by decide +kernel
theorem dX5_wholeNodes_9 : decode cX5_wholeNodes 9 = .ok (.iconst 1, 1) := by decide +kernel
theorem dX5_wholeNodes_10 : decode cX5_wholeNodes 10 = .ok (.isub, 1) := by decide +kernel
theorem dX5_wholeNodes_11 : decode cX5_wholeNodes 11 = .ok (.ireturn, 1) := by decide +kernel
set_option maxRecDepth 20000 in
theorem ggX5_wake_X5_distanceFromNode : GoodIn wsX5_wake wsX5_distanceFromNode := goodIn_r _ [10, 11, 2, 3, 4, 5, 12, 13, 14, 9, 15, 16, 17, 18, 19, 29, 30, 31, 32, 33, 34, 35] (by decide +kernel) (by decide +kernel)
set_option maxRecDepth 20000 in
theorem gX5_wake_X5_distanceFromNode : GoodIn wsX5_wake (wsV RX5 78 RX5 yX5_distanceFromNode wsX5_distanceFromNode) := goodIn_app (goodIn_of _ (by decide +kernel)) ggX5_wake_X5_distanceFromNode
set_option maxRecDepth 20000 in
theorem ggX5_wake_X5_soundingLength : GoodIn wsX5_wake wsX5_soundingLength := goodIn_r _ [15, 11, 29, 30, 31, 32, 33, 34, 35] (by decide +kernel) (by decide +kernel)
set_option maxRecDepth 20000 in
theorem gX5_wake_X5_soundingLength : GoodIn wsX5_wake (wsV RX5 63 RX5 yX5_soundingLength wsX5_soundingLength) := goodIn_app (goodIn_of _ (by decide +kernel)) ggX5_wake_X5_soundingLength
set_option maxRecDepth 20000 in
theorem ggX5_wake_X5_amplitudeOf : GoodIn wsX5_wake wsX5_amplitudeOf := goodIn_r _ [23, 24, 29, 30, 31, 32, 33, 34, 35] (by decide +kernel) (by decide +kernel)
set_option maxRecDepth 20000 in
theorem gX5_wake_X5_amplitudeOf : GoodIn wsX5_wake (wsV RX5 43 RX5 yX5_amplitudeOf wsX5_amplitudeOf) := goodIn_app (goodIn_of _ (by decide +kernel)) ggX5_wake_X5_amplitudeOf
set_option maxRecDepth 20000 in
theorem ggX5_wake_X5_setAmplitude : GoodIn wsX5_wake wsX5_setAmplitude := goodIn_r _ [28, 24, 29, 30, 31, 32, 33, 34, 35] (by decide +kernel) (by decide +kernel)
set_option maxRecDepth 20000 in
theorem gX5_wake_X5_setAmplitude : GoodIn wsX5_wake (wsV RX5 47 RX5 yX5_setAmplitude wsX5_setAmplitude) := goodIn_app (goodIn_of _ (by decide +kernel)) ggX5_wake_X5_setAmplitude
theorem dX5_wake_0 : decode cX5_wake 0 = .ok (.iconst 1, 1) := by decide +kernel
theorem dX5_wake_1 : decode cX5_wake 1 = .ok (.istore 4, 2) := by decide +kernel
theorem dX5_wake_3 : decode cX5_wake 3 = .ok (.iload 4, 2) := by decide +kernel
theorem dX5_wake_5 : decode cX5_wake 5 = .ok (.bipush 12, 2) := by decide +kernel
theorem dX5_wake_7 : decode cX5_wake 7 = .ok (.if_icmp .gt 74, 3) := by decide +kernel
theorem dX5_wake_10 : decode cX5_wake 10 = .ok (.aload_n 0, 1) := by decide +kernel
theorem dX5_wake_11 : decode cX5_wake 11 = .ok (.iload_n 1, 1) := by decide +kernel
theorem dX5_wake_12 : decode cX5_wake 12 = .ok (.iload 4, 2) := by decide +kernel
theorem dX5_wake_14 : decode cX5_wake 14 = .ok (.iload_n 2, 1) := by decide +kernel
theorem dX5_wake_15 : decode cX5_wake 15 = .ok (.invokevirtual 78, 3) := by decide +kernel
theorem dX5_wake_18 : decode cX5_wake 18 = .ok (.istore 5, 2) := by decide +kernel
theorem dX5_wake_20 : decode cX5_wake 20 = .ok (.aload_n 0, 1) := by decide +kernel
theorem dX5_wake_21 : decode cX5_wake 21 = .ok (.iload_n 1, 1) := by decide +kernel
theorem dX5_wake_22 : decode cX5_wake 22 = .ok (.invokevirtual 63, 3) := by decide +kernel
theorem dX5_wake_25 : decode cX5_wake 25 = .ok (.iload 4, 2) := by decide +kernel
theorem dX5_wake_27 : decode cX5_wake 27 = .ok (.imul, 1) := by decide +kernel
theorem dX5_wake_28 : decode cX5_wake 28 = .ok (.istore 6, 2) := by decide +kernel
theorem dX5_wake_30 : decode cX5_wake 30 = .ok (.iload 6, 2) := by decide +kernel
theorem dX5_wake_32 : decode cX5_wake 32 = .ok (.iconst 1, 1) := by decide +kernel
theorem dX5_wake_33 : decode cX5_wake 33 = .ok (.if_icmp .ge 7, 3) := by decide +kernel
theorem dX5_wake_36 : decode cX5_wake 36 = .ok (.iconst 0, 1) := by decide +kernel
theorem dX5_wake_37 : decode cX5_wake 37 = .ok (.goto 14, 3) := by decide +kernel
theorem dX5_wake_40 : decode cX5_wake 40 = .ok (.iload_n 3, 1) := by decide +kernel
theorem dX5_wake_41 : decode cX5_wake 41 = .ok (.iload 5, 2) := by decide +kernel
theorem dX5_wake_43 : decode cX5_wake 43 = .ok (.imul, 1) := by decide +kernel
theorem dX5_wake_44 : decode cX5_wake 44 = .ok (.sipush 1000, 3) := by decide +kernel
theorem dX5_wake_47 : decode cX5_wake 47 = .ok (.imul, 1) := by decide +kernel
theorem dX5_wake_48 : decode cX5_wake 48 = .ok (.iload 6, 2) := by decide +kernel
theorem dX5_wake_50 : decode cX5_wake 50 = .ok (.idiv, 1) := by decide +kernel
theorem dX5_wake_51 : decode cX5_wake 51 = .ok (.istore 7, 2) := by decide +kernel
theorem dX5_wake_53 : decode cX5_wake 53 = .ok (.aload_n 0, 1) := by decide +kernel
theorem dX5_wake_54 : decode cX5_wake 54 = .ok (.iload_n 1, 1) := by decide +kernel
theorem dX5_wake_55 : decode cX5_wake 55 = .ok (.iload 4, 2) := by decide +kernel
theorem dX5_wake_57 : decode cX5_wake 57 = .ok (.ldc 9, 2) := by decide +kernel
theorem dX5_wake_59 : decode cX5_wake 59 = .ok (.aload_n 0, 1) := by decide +kernel
theorem dX5_wake_60 : decode cX5_wake 60 = .ok (.iload_n 1, 1) := by decide +kernel
theorem dX5_wake_61 : decode cX5_wake 61 = .ok (.iload 4, 2) := by decide +kernel
theorem dX5_wake_63 : decode cX5_wake 63 = .ok (.invokevirtual 43, 3) := by decide +kernel
theorem dX5_wake_66 : decode cX5_wake 66 = .ok (.iload 7, 2) := by decide +kernel
theorem dX5_wake_68 : decode cX5_wake 68 = .ok (.iadd, 1) := by decide +kernel
theorem dX5_wake_69 : decode cX5_wake 69 = .ok (.invokestatic 72, 3) := by decide +kernel
theorem dX5_wake_72 : decode cX5_wake 72 = .ok (.invokevirtual 47, 3) := by decide +kernel
theorem dX5_wake_75 : decode cX5_wake 75 = .ok (.iinc 4 1, 3) := by decide +kernel
theorem dX5_wake_78 : decode cX5_wake 78 = .ok (.goto (-75), 3) := by decide +kernel
theorem dX5_wake_81 : decode cX5_wake 81 = .ok (.return_, 1) := by decide +kernel
set_option maxRecDepth 20000 in
theorem ggX5_isDamped_X5_distanceFromNode : GoodIn wsX5_isDamped wsX5_distanceFromNode := goodIn_r _ [7, 2, 8, 9, 10, 11, 12, 13, 14, 6, 15, 16, 17, 18, 19, 20, 21, 22, 23, 24, 25, 26] (by decide +kernel) (by decide +kernel)
set_option maxRecDepth 20000 in
theorem gX5_isDamped_X5_distanceFromNode : GoodIn wsX5_isDamped (wsV RX5 78 RX5 yX5_distanceFromNode wsX5_distanceFromNode) := goodIn_app (goodIn_of _ (by decide +kernel)) ggX5_isDamped_X5_distanceFromNode
theorem dX5_isDamped_0 : decode cX5_isDamped 0 = .ok (.aload_n 0, 1) := by decide +kernel
theorem dX5_isDamped_1 : decode cX5_isDamped 1 = .ok (.getfield 22, 3) := by decide +kernel
theorem dX5_isDamped_4 : decode cX5_isDamped 4 = .ok (.iload_n 1, 1) := by decide +kernel
theorem dX5_isDamped_5 : decode cX5_isDamped 5 = .ok (.iaload, 1) := by decide +kernel
theorem dX5_isDamped_6 : decode cX5_isDamped 6 = .ok (.aload_n 0, 1) := by decide +kernel
theorem dX5_isDamped_7 : decode cX5_isDamped 7 = .ok (.getfield 31, 3) := by decide +kernel
theorem dX5_isDamped_10 : decode cX5_isDamped 10 = .ok (.iload_n 1, 1) := by decide +kernel
theorem dX5_isDamped_11 : decode cX5_isDamped 11 = .ok (.iaload, 1) := by decide +kernel
theorem dX5_isDamped_12 : decode cX5_isDamped 12 = .ok (.if_icmp .le 22, 3) := by decide +kernel
theorem dX5_isDamped_15 : decode cX5_isDamped 15 = .ok (.aload_n 0, 1) := by decide +kernel
theorem dX5_isDamped_16 : decode cX5_isDamped 16 = .ok (.iload_n 1, 1) := by decide +kernel
theorem dX5_isDamped_17 : decode cX5_isDamped 17 = .ok (.iload_n 2, 1) := by decide +kernel
theorem dX5_isDamped_18 : decode cX5_isDamped 18 = .ok (.aload_n 0, 1) := by decide +kernel
theorem dX5_isDamped_19 : decode cX5_isDamped 19 = .ok (.getfield 22, 3) := by decide +kernel
theorem dX5_isDamped_22 : decode cX5_isDamped 22 = .ok (.iload_n 1, 1) := by decide +kernel
theorem dX5_isDamped_23 : decode cX5_isDamped 23 = .ok (.iaload, 1) := by decide +kernel
theorem dX5_isDamped_24 : decode cX5_isDamped 24 = .ok (.invokevirtual 78, 3) := by decide +kernel
theorem dX5_isDamped_27 : decode cX5_isDamped 27 = .ok (.ifCond .eq 7, 3) := by decide +kernel
theorem dX5_isDamped_30 : decode cX5_isDamped 30 = .ok (.iconst 1, 1) := by decide +kernel
theorem dX5_isDamped_31 : decode cX5_isDamped 31 = .ok (.goto 4, 3) := by decide +kernel
theorem dX5_isDamped_34 : decode cX5_isDamped 34 = .ok (.iconst 0, 1) := by decide +kernel
theorem dX5_isDamped_35 : decode cX5_isDamped 35 = .ok (.ireturn, 1) := by decide +kernel
