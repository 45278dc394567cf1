set_option maxRecDepth 20000 in
theorem ggX4_init_X1_init : GoodIn wsX4_init wsX1_init := goodIn_r _ [19, 20, 2, 3, 16, 21, 22, 23, 43, 44, 45, 46] (by decide +kernel) (by decide +kernel)
set_option maxRecDepth 20000 in
theorem gX4_init_X1_init_n11 : GoodIn wsX4_init (wsX1_init) := ggX4_init_X1_init
set_option maxRecDepth 20000 in
theorem ggX4_init_X5_init : GoodIn wsX4_init wsX5_init := goodIn_r _ [25, 26, 2, 3, 16, 27, 28, 29, 30, 31, 32, 33, 34, 35, 36, 37, 53, 54, 55, 56, 57, 58, 59] (by decide +kernel) (by decide +kernel)
set_option maxRecDepth 20000 in
theorem gX4_init_X5_init_n20 : GoodIn wsX4_init (wsX5_init) := ggX4_init_X5_init
set_option maxRecDepth 20000 in
theorem ggX4_init_X2_init : GoodIn wsX4_init wsX2_init := goodIn_r _ [39, 40, 2, 3, 16, 41, 42, 60, 61, 62] (by decide +kernel) (by decide +kernel)
set_option maxRecDepth 20000 in
theorem gX4_init_X2_init_n27 : GoodIn wsX4_init (wsX2_init) := ggX4_init_X2_init
theorem dX4_init_0 : decode cX4_init 0 = .ok (.aload_n 0, 1) := by decide +kernel
theorem dX4_init_1 : decode cX4_init 1 = .ok (.invokespecial 3, 3) := by decide +kernel
theorem dX4_init_4 : decode cX4_init 4 = .ok (.aload_n 0, 1) := by decide +kernel
theorem dX4_init_5 : decode cX4_init 5 = .ok (.new 9, 3) := by decide +kernel
theorem dX4_init_8 : decode cX4_init 8 = .ok (.dup, 1) := by decide +kernel
theorem dX4_init_9 : decode cX4_init 9 = .ok (.invokespecial 11, 3) := by decide +kernel
theorem dX4_init_12 : decode cX4_init 12 = .ok (.putfield 12, 3) := by decide +kernel
theorem dX4_init_15 : decode cX4_init 15 = .ok (.aload_n 0, 1) := by decide +kernel
theorem dX4_init_16 : decode cX4_init 16 = .ok (.new 18, 3) := by decide +kernel
theorem dX4_init_19 : decode cX4_init 19 = .ok (.dup, 1) := by decide +kernel
theorem dX4_init_20 : decode cX4_init 20 = .ok (.invokespecial 20, 3) := by decide +kernel
theorem dX4_init_23 : decode cX4_init 23 = .ok (.putfield 21, 3) := by decide +kernel
theorem dX4_init_26 : decode cX4_init 26 = .ok (.aload_n 0, 1) := by decide +kernel
theorem dX4_init_27 : decode cX4_init 27 = .ok (.new 25, 3) := by decide +kernel
theorem dX4_init_30 : decode cX4_init 30 = .ok (.dup, 1) := by decide +kernel
theorem dX4_init_31 : decode cX4_init 31 = .ok (.invokespecial 27, 3) := by decide +kernel
theorem dX4_init_34 : decode cX4_init 34 = .ok (.putfield 28, 3) := by decide +kernel
theorem dX4_init_37 : decode cX4_init 37 = .ok (.aload_n 0, 1) := by decide +kernel
theorem dX4_init_38 : decode cX4_init 38 = .ok (.iconst 5, 1) := by decide +kernel
theorem dX4_init_39 : decode cX4_init 39 = .ok (.newarray .int, 2) := by decide +kernel
theorem dX4_init_41 : decode cX4_init 41 = .ok (.dup, 1) := by decide +kernel
theorem dX4_init_42 : decode cX4_init 42 = .ok (.iconst 0, 1) := by decide +kernel
theorem dX4_init_43 : decode cX4_init 43 = .ok (.bipush 10, 2) := by decide +kernel
theorem dX4_init_45 : decode cX4_init 45 = .ok (.iastore, 1) := by decide +kernel
theorem dX4_init_46 : decode cX4_init 46 = .ok (.dup, 1) := by decide +kernel
theorem dX4_init_47 : decode cX4_init 47 = .ok (.iconst 1, 1) := by decide +kernel
theorem dX4_init_48 : decode cX4_init 48 = .ok (.iconst 5, 1) := by decide +kernel
theorem dX4_init_49 : decode cX4_init 49 = .ok (.iastore, 1) := by decide +kernel
theorem dX4_init_50 : decode cX4_init 50 = .ok (.dup, 1) := by decide +kernel
theorem dX4_init_51 : decode cX4_init 51 = .ok (.iconst 2, 1) := by decide +kernel
theorem dX4_init_52 : decode cX4_init 52 = .ok (.sipush 500, 3) := by decide +kernel
theorem dX4_init_55 : decode cX4_init 55 = .ok (.iastore, 1) := by decide +kernel
theorem dX4_init_56 : decode cX4_init 56 = .ok (.dup, 1) := by decide +kernel
theorem dX4_init_57 : decode cX4_init 57 = .ok (.iconst 3, 1) := by decide +kernel
theorem dX4_init_58 : decode cX4_init 58 = .ok (.sipush 1000, 3) := by decide +kernel
theorem dX4_init_61 : decode cX4_init 61 = .ok (.iastore, 1) := by decide +kernel
theorem dX4_init_62 : decode cX4_init 62 = .ok (.dup, 1) := by decide +kernel
theorem dX4_init_63 : decode cX4_init 63 = .ok (.iconst 4, 1) := by decide +kernel
theorem dX4_init_64 : decode cX4_init 64 = .ok (.bipush 50, 2) := by decide +kernel
theorem dX4_init_66 : decode cX4_init 66 = .ok (.iastore, 1) := by decide +kernel
theorem dX4_init_67 : decode cX4_init 67 = .ok (.putfield 32, 3) := by decide +kernel
theorem dX4_init_70 : decode cX4_init 70 = .ok (.return_, 1) := by decide +kernel
set_option maxRecDepth 20000 in
theorem ggX4_copyFrom_X1_copyFrom : GoodIn wsX4_copyFrom wsX1_copyFrom := goodIn_r _ [15, 16, 17, 18, 6, 7, 8, 19, 20, 49, 50, 51, 52] (by decide +kernel) (by decide +kernel)
set_option maxRecDepth 20000 in
theorem gX4_copyFrom_X1_copyFrom : GoodIn wsX4_copyFrom (wsV RX4 36 RX1 yX1_copyFrom wsX1_copyFrom) := goodIn_app (goodIn_of _ (by decide +kernel)) ggX4_copyFrom_X1_copyFrom
set_option maxRecDepth 20000 in
theorem ggX4_copyFrom_X5_copyFrom : GoodIn wsX4_copyFrom wsX5_copyFrom := goodIn_r _ [25, 26, 27, 6, 7, 8, 28, 29, 30, 31, 32, 33, 53, 54, 55, 56, 57, 58, 59] (by decide +kernel) (by decide +kernel)
set_option maxRecDepth 20000 in
theorem gX4_copyFrom_X5_copyFrom : GoodIn wsX4_copyFrom (wsV RX4 40 RX5 yX5_copyFrom wsX5_copyFrom) := goodIn_app (goodIn_of _ (by decide +kernel)) ggX4_copyFrom_X5_copyFrom
set_option maxRecDepth 20000 in
theorem ggX4_copyFrom_X2_copyFrom : GoodIn wsX4_copyFrom wsX2_copyFrom := goodIn_r _ [38, 39, 40, 41, 6, 7, 8, 42, 60, 61, 62] (by decide +kernel) (by decide +kernel)
set_option maxRecDepth 20000 in
theorem gX4_copyFrom_X2_copyFrom : GoodIn wsX4_copyFrom (wsV RX4 43 RX2 yX2_copyFrom wsX2_copyFrom) := goodIn_app (goodIn_of _ (by decide +kernel)) ggX4_copyFrom_X2_copyFrom
theorem dX4_copyFrom_0 : decode cX4_copyFrom 0 = .ok (.aload_n 0, 1) := by decide +kernel
theorem dX4_copyFrom_1 : decode cX4_copyFrom 1 = .ok (.getfield 12, 3) := by decide +kernel
theorem dX4_copyFrom_4 : decode cX4_copyFrom 4 = .ok (.aload_n 1, 1) := by decide +kernel
theorem dX4_copyFrom_5 : decode cX4_copyFrom 5 = .ok (.getfield 12, 3) := by decide +kernel
theorem dX4_copyFrom_8 : decode cX4_copyFrom 8 = .ok (.invokevirtual 36, 3) := by decide +kernel
theorem dX4_copyFrom_11 : decode cX4_copyFrom 11 = .ok (.aload_n 0, 1) := by decide +kernel
theorem dX4_copyFrom_12 : decode cX4_copyFrom 12 = .ok (.getfield 21, 3) := by decide +kernel
theorem dX4_copyFrom_15 : decode cX4_copyFrom 15 = .ok (.aload_n 1, 1) := by decide +kernel
theorem dX4_copyFrom_16 : decode cX4_copyFrom 16 = .ok (.getfield 21, 3) := by decide +kernel
theorem dX4_copyFrom_19 : decode cX4_copyFrom 19 = .ok (.invokevirtual 40, 3) := by decide +kernel
theorem dX4_copyFrom_22 : decode cX4_copyFrom 22 = .ok (.aload_n 0, 1) := by decide +kernel
theorem dX4_copyFrom_23 : decode cX4_copyFrom 23 = .ok (.getfield 28, 3) := by decide +kernel
theorem dX4_copyFrom_26 : decode cX4_copyFrom 26 = .ok (.aload_n 1, 1) := by decide +kernel
theorem dX4_copyFrom_27 : decode cX4_copyFrom 27 = .ok (.getfield 28, 3) := by decide +kernel
theorem dX4_copyFrom_30 : decode cX4_copyFrom 30 = .ok (.invokevirtual 43, 3) := by decide +kernel
theorem dX4_copyFrom_33 : decode cX4_copyFrom 33 = .ok (.aload_n 1, 1) := by decide +kernel
theorem dX4_copyFrom_34 : decode cX4_copyFrom 34 = .ok (.getfield 32, 3) := by decide +kernel
theorem dX4_copyFrom_37 : decode cX4_copyFrom 37 = .ok (.iconst 0, 1) := by decide +kernel
theorem dX4_copyFrom_38 : decode cX4_copyFrom 38 = .ok (.aload_n 0, 1) := by decide +kernel
theorem dX4_copyFrom_39 : decode cX4_copyFrom 39 = .ok (.getfield 32, 3) := by decide +kernel
theorem dX4_copyFrom_42 : decode cX4_copyFrom 42 = .ok (.iconst 0, 1) := by decide +kernel
theorem dX4_copyFrom_43 : decode cX4_copyFrom 43 = .ok (.aload_n 0, 1) := by decide +kernel
theorem dX4_copyFrom_44 : decode cX4_copyFrom 44 = .ok (.getfield 32, 3) := by decide +kernel
theorem dX4_copyFrom_47 : decode cX4_copyFrom 47 = .ok (.arraylength, 1) := by decide +kernel
theorem dX4_copyFrom_48 : decode cX4_copyFrom 48 = .ok (.invokestatic 46, 3) := by decide +kernel
theorem dX4_copyFrom_51 : decode cX4_copyFrom 51 = .ok (.aload_n 0, 1) := by decide +kernel
theorem dX4_copyFrom_52 : decode cX4_copyFrom 52 = .ok (.aload_n 1, 1) := by decide +kernel
theorem dX4_copyFrom_53 : decode cX4_copyFrom 53 = .ok (.getfield 52, 3) := by decide +kernel
theorem dX4_copyFrom_56 : decode cX4_copyFrom 56 = .ok (.putfield 52, 3) := by decide +kernel
theorem dX4_copyFrom_59 : decode cX4_copyFrom 59 = .ok (.aload_n 0, 1) := by decide +kernel
theorem dX4_copyFrom_60 : decode cX4_copyFrom 60 = .ok (.aload_n 1, 1) := by decide +kernel
theorem dX4_copyFrom_61 : decode cX4_copyFrom 61 = .ok (.getfield 56, 3) := by decide +kernel
theorem dX4_copyFrom_64 : decode cX4_copyFrom 64 = .ok (.putfield 56, 3) := by decide +kernel
theorem dX4_copyFrom_67 : decode cX4_copyFrom 67 = .ok (.return_, 1) := by decide +kernel
set_option maxRecDepth 20000 in
theorem ggX4_insertFret_X1_insert : GoodIn wsX4_insertFret wsX1_insert := goodIn_r _ [7, 8, 9, 10, 11, 73, 74, 75, 76] (by decide +kernel) (by decide +kernel)
set_option maxRecDepth 20000 in
theorem gX4_insertFret_X1_insert : GoodIn wsX4_insertFret (wsV RX4 59 RX1 yX1_insert wsX1_insert) := goodIn_app (goodIn_of _ (by decide +kernel)) ggX4_insertFret_X1_insert
set_option maxRecDepth 20000 in
theorem ggX4_insertFret_X5_makeRoomFor : GoodIn wsX4_insertFret wsX5_makeRoomFor := goodIn_r _ [16, 17, 77, 78, 79, 80, 81, 82, 83] (by decide +kernel) (by decide +kernel)
set_option maxRecDepth 20000 in
theorem gX4_insertFret_X5_makeRoomFor : GoodIn wsX4_insertFret (wsV RX4 63 RX5 yX5_makeRoomFor wsX5_makeRoomFor) := goodIn_app (goodIn_of _ (by decide +kernel)) ggX4_insertFret_X5_makeRoomFor
set_option maxRecDepth 20000 in
theorem ggX4_insertFret_X4_settle : GoodIn wsX4_insertFret wsX4_settle := goodIn_r _ [22, 1, 2, 23, 24, 25, 26, 6, 27, 8, 28, 29, 30, 31, 32, 33, 34, 35, 36, 37, 38, 10, 39, 40, 41, 42, 9, 43, 44, 45, 46, 47, 48, 49, 50, 51, 52, 53, 54, 15, 55, 56, 57, 58, 59, 60, 61, 62, 63, 64, 65, 66, 67, 68, 69, 70, 71, 72, 77, 78, 79, 80, 81, 82, 83, 73, 74, 75, 76] (by decide +kernel) (by decide +kernel)
set_option maxRecDepth 20000 in
theorem gX4_insertFret_X4_settle : GoodIn wsX4_insertFret (wsV RX4 67 RX4 yX4_settle wsX4_settle) := goodIn_app (goodIn_of _ (by decide +kernel)) ggX4_insertFret_X4_settle
theorem dX4_insertFret_0 : decode cX4_insertFret 0 = .ok (.aload_n 0, 1) := by decide +kernel
theorem dX4_insertFret_1 : decode cX4_insertFret 1 = .ok (.getfield 12, 3) := by decide +kernel
theorem dX4_insertFret_4 : decode cX4_insertFret 4 = .ok (.iload_n 1, 1) := by decide +kernel
theorem dX4_insertFret_5 : decode cX4_insertFret 5 = .ok (.iload_n 2, 1) := by decide +kernel
theorem dX4_insertFret_6 : decode cX4_insertFret 6 = .ok (.invokevirtual 59, 3) := by decide +kernel
theorem dX4_insertFret_9 : decode cX4_insertFret 9 = .ok (.istore_n 3, 1) := by decide +kernel
theorem dX4_insertFret_10 : decode cX4_insertFret 10 = .ok (.aload_n 0, 1) := by decide +kernel
theorem dX4_insertFret_11 : decode cX4_insertFret 11 = .ok (.getfield 21, 3) := by decide +kernel
theorem dX4_insertFret_14 : decode cX4_insertFret 14 = .ok (.iload_n 3, 1) := by decide +kernel
theorem dX4_insertFret_15 : decode cX4_insertFret 15 = .ok (.invokevirtual 63, 3) := by decide +kernel
theorem dX4_insertFret_18 : decode cX4_insertFret 18 = .ok (.aload_n 0, 1) := by decide +kernel
theorem dX4_insertFret_19 : decode cX4_insertFret 19 = .ok (.invokevirtual 67, 3) := by decide +kernel
theorem dX4_insertFret_22 : decode cX4_insertFret 22 = .ok (.iload_n 3, 1) := by decide +kernel
theorem dX4_insertFret_23 : decode cX4_insertFret 23 = .ok (.ireturn, 1) := by decide +kernel
set_option maxRecDepth 20000 in
theorem ggX4_pressAt_X4_settle : GoodIn wsX4_pressAt wsX4_settle := goodIn_r _ [7, 8, 1, 2, 9, 10, 11, 12, 13, 14, 15, 16, 17, 18, 19, 20, 21, 22, 23, 24, 25, 26, 27, 28, 29, 30, 31, 32, 33, 34, 35, 36, 37, 38, 39, 40, 41, 42, 43, 44, 45, 46, 47, 48, 49, 50, 51, 52, 53, 54, 55, 56, 57, 58, 59, 60, 61, 62, 63, 64, 65, 66, 67, 68, 69, 70, 71, 72, 73] (by decide +kernel) (by decide +kernel)
set_option maxRecDepth 20000 in
theorem gX4_pressAt_X4_settle : GoodIn wsX4_pressAt (wsV RX4 67 RX4 yX4_settle wsX4_settle) := goodIn_app (goodIn_of _ (by decide +kernel)) ggX4_pressAt_X4_settle
theorem dX4_pressAt_0 : decode cX4_pressAt 0 = .ok (.aload_n 0, 1) := by decide +kernel
theorem dX4_pressAt_1 : decode cX4_pressAt 1 = .ok (.getfield 21, 3) := by decide +kernel
theorem dX4_pressAt_4 : decode cX4_pressAt 4 = .ok (.getfield 70, 3) := by decide +kernel
theorem dX4_pressAt_7 : decode cX4_pressAt 7 = .ok (.iload_n 1, 1) := by decide +kernel
theorem dX4_pressAt_8 : decode cX4_pressAt 8 = .ok (.iload_n 2, 1) := by decide +kernel
theorem dX4_pressAt_9 : decode cX4_pressAt 9 = .ok (.iastore, 1) := by decide +kernel
theorem dX4_pressAt_10 : decode cX4_pressAt 10 = .ok (.aload_n 0, 1) := by decide +kernel
theorem dX4_pressAt_11 : decode cX4_pressAt 11 = .ok (.invokevirtual 67, 3) := by decide +kernel
theorem dX4_pressAt_14 : decode cX4_pressAt 14 = .ok (.return_, 1) := by decide +kernel
set_option maxRecDepth 20000 in
theorem ggX4_settle_X1_sourceFor : GoodIn wsX4_settle wsX1_sourceFor := goodIn_r _ [8, 9, 10, 11, 12, 7, 13, 14, 15, 16, 17, 18, 19, 20, 21, 22, 23, 24, 25, 26, 27, 28, 29, 30, 31, 32, 33, 34, 65, 66, 67, 68] (by decide +kernel) (by decide +kernel)
set_option maxRecDepth 20000 in
theorem gX4_settle_X1_sourceFor : GoodIn wsX4_settle (wsV RX4 73 RX1 yX1_sourceFor wsX1_sourceFor) := goodIn_app (goodIn_of _ (by decide +kernel)) ggX4_settle_X1_sourceFor
set_option maxRecDepth 20000 in
theorem ggX4_settle_X1_positionOf : GoodIn wsX4_settle wsX1_positionOf := goodIn_r _ [25, 26, 10, 11, 12, 7, 13, 9, 14, 15, 16, 65, 66, 67, 68] (by decide +kernel) (by decide +kernel)
set_option maxRecDepth 20000 in
theorem gX4_settle_X1_positionOf : GoodIn wsX4_settle (wsV RX4 77 RX1 yX1_positionOf wsX1_positionOf) := goodIn_app (goodIn_of _ (by decide +kernel)) ggX4_settle_X1_positionOf
set_option maxRecDepth 20000 in
theorem ggX4_settle_X5_soundFrom : GoodIn wsX4_settle wsX5_soundFrom := goodIn_r _ [40, 41, 42, 43, 44, 45, 39, 46, 47, 48, 49, 50, 51, 58, 59, 60, 61, 62, 63, 64] (by decide +kernel) (by decide +kernel)
set_option maxRecDepth 20000 in
theorem gX4_settle_X5_soundFrom : GoodIn wsX4_settle (wsV RX4 80 RX5 yX5_soundFrom wsX5_soundFrom) := goodIn_app (goodIn_of _ (by decide +kernel)) ggX4_settle_X5_soundFrom
theorem dX4_settle_0 : decode cX4_settle 0 = .ok (.iconst 0, 1) := by decide +kernel
theorem dX4_settle_1 : decode cX4_settle 1 = .ok (.istore_n 1, 1) := by decide +kernel
theorem dX4_settle_2 : decode cX4_settle 2 = .ok (.iload_n 1, 1) := by decide +kernel
theorem dX4_settle_3 : decode cX4_settle 3 = .ok (.iconst 4, 1) := by decide +kernel
theorem dX4_settle_4 : decode cX4_settle 4 = .ok (.if_icmp .ge 43, 3) := by decide +kernel
theorem dX4_settle_7 : decode cX4_settle 7 = .ok (.aload_n 0, 1) := by decide +kernel
theorem dX4_settle_8 : decode cX4_settle 8 = .ok (.getfield 12, 3) := by decide +kernel
theorem dX4_settle_11 : decode cX4_settle 11 = .ok (.aload_n 0, 1) := by decide +kernel
theorem dX4_settle_12 : decode cX4_settle 12 = .ok (.getfield 21, 3) := by decide +kernel
theorem dX4_settle_15 : decode cX4_settle 15 = .ok (.getfield 70, 3) := by decide +kernel
theorem dX4_settle_18 : decode cX4_settle 18 = .ok (.iload_n 1, 1) := by decide +kernel
theorem dX4_settle_19 : decode cX4_settle 19 = .ok (.iaload, 1) := by decide +kernel
theorem dX4_settle_20 : decode cX4_settle 20 = .ok (.invokevirtual 73, 3) := by decide +kernel
theorem dX4_settle_23 : decode cX4_settle 23 = .ok (.istore_n 2, 1) := by decide +kernel
theorem dX4_settle_24 : decode cX4_settle 24 = .ok (.aload_n 0, 1) := by decide +kernel
theorem dX4_settle_25 : decode cX4_settle 25 = .ok (.getfield 21, 3) := by decide +kernel
theorem dX4_settle_28 : decode cX4_settle 28 = .ok (.iload_n 1, 1) := by decide +kernel
theorem dX4_settle_29 : decode cX4_settle 29 = .ok (.iload_n 2, 1) := by decide +kernel
theorem dX4_settle_30 : decode cX4_settle 30 = .ok (.aload_n 0, 1) := by decide +kernel
theorem dX4_settle_31 : decode cX4_settle 31 = .ok (.getfield 12, 3) := by decide +kernel
theorem dX4_settle_34 : decode cX4_settle 34 = .ok (.iload_n 2, 1) := by decide +kernel
theorem dX4_settle_35 : decode cX4_settle 35 = .ok (.invokevirtual 77, 3) := by decide +kernel
theorem dX4_settle_38 : decode cX4_settle 38 = .ok (.invokevirtual 80, 3) := by decide +kernel
theorem dX4_settle_41 : decode cX4_settle 41 = .ok (.iinc 1 1, 3) := by decide +kernel
theorem dX4_settle_44 : decode cX4_settle 44 = .ok (.goto (-42), 3) := by decide +kernel
theorem dX4_settle_47 : decode cX4_settle 47 = .ok (.return_, 1) := by decide +kernel
set_option maxRecDepth 20000 in
theorem ggX4_pluckAt_X5_wake : GoodIn wsX4_pluckAt wsX5_wake := goodIn_r _ [13, 14, 15, 16, 17, 18, 19, 20, 21, 12, 22, 23, 24, 25, 26, 27, 28, 29, 30, 31, 32, 33, 34, 35, 36, 37, 38, 39, 40, 109, 110, 111, 112, 113, 114, 115] (by decide +kernel) (by decide +kernel)
set_option maxRecDepth 20000 in
theorem gX4_pluckAt_X5_wake : GoodIn wsX4_pluckAt (wsV RX4 87 RX5 yX5_wake wsX5_wake) := goodIn_app (goodIn_of _ (by decide +kernel)) ggX4_pluckAt_X5_wake
set_option maxRecDepth 20000 in
theorem ggX4_pluckAt_X2_add : GoodIn wsX4_pluckAt wsX2_add := goodIn_r _ [45, 46, 47, 48, 116, 117, 118] (by decide +kernel) (by decide +kernel)
set_option maxRecDepth 20000 in
theorem gX4_pluckAt_X2_add : GoodIn wsX4_pluckAt (wsV RX4 93 RX2 yX2_add wsX2_add) := goodIn_app (goodIn_of _ (by decide +kernel)) ggX4_pluckAt_X2_add
set_option maxRecDepth 20000 in
theorem ggX4_pluckAt_X1_wearBy : GoodIn wsX4_pluckAt wsX1_wearBy := goodIn_r _ [53, 54, 55, 56, 16, 17, 18, 57, 58, 59, 60, 61, 62, 52, 63, 64, 65, 66, 67, 119, 120, 121, 122] (by decide +kernel) (by decide +kernel)
set_option maxRecDepth 20000 in
theorem gX4_pluckAt_X1_wearBy : GoodIn wsX4_pluckAt (wsV RX4 97 RX1 yX1_wearBy wsX1_wearBy) := goodIn_app (goodIn_of _ (by decide +kernel)) ggX4_pluckAt_X1_wearBy
set_option maxRecDepth 20000 in
theorem ggX4_pluckAt_X4_settle : GoodIn wsX4_pluckAt wsX4_settle := goodIn_r _ [72, 7, 1, 2, 73, 74, 75, 52, 76, 64, 60, 61, 62, 63, 65, 66, 67, 77, 78, 79, 80, 55, 81, 82, 83, 84, 85, 86, 87, 88, 89, 90, 91, 30, 92, 93, 94, 95, 96, 12, 97, 23, 98, 99, 100, 101, 102, 37, 38, 39, 40, 36, 103, 104, 105, 106, 107, 108, 109, 110, 111, 112, 113, 114, 115, 119, 120, 121, 122] (by decide +kernel) (by decide +kernel)
set_option maxRecDepth 20000 in
theorem gX4_pluckAt_X4_settle : GoodIn wsX4_pluckAt (wsV RX4 67 RX4 yX4_settle wsX4_settle) := goodIn_app (goodIn_of _ (by decide +kernel)) ggX4_pluckAt_X4_settle
theorem dX4_pluckAt_0 : decode cX4_pluckAt 0 = .ok (.aload_n 0, 1) := by decide +kernel
theorem dX4_pluckAt_1 : decode cX4_pluckAt 1 = .ok (.getfield 21, 3) := by decide +kernel
theorem dX4_pluckAt_4 : decode cX4_pluckAt 4 = .ok (.getfield 70, 3) := by decide +kernel
theorem dX4_pluckAt_7 : decode cX4_pluckAt 7 = .ok (.iload_n 1, 1) := by decide +kernel
theorem dX4_pluckAt_8 : decode cX4_pluckAt 8 = .ok (.iaload, 1) := by decide +kernel
theorem dX4_pluckAt_9 : decode cX4_pluckAt 9 = .ok (.istore 4, 2) := by decide +kernel
theorem dX4_pluckAt_11 : decode cX4_pluckAt 11 = .ok (.aload_n 0, 1) := by decide +kernel
theorem dX4_pluckAt_12 : decode cX4_pluckAt 12 = .ok (.getfield 21, 3) := by decide +kernel
theorem dX4_pluckAt_15 : decode cX4_pluckAt 15 = .ok (.getfield 84, 3) := by decide +kernel
theorem dX4_pluckAt_18 : decode cX4_pluckAt 18 = .ok (.iload_n 1, 1) := by decide +kernel
theorem dX4_pluckAt_19 : decode cX4_pluckAt 19 = .ok (.iaload, 1) := by decide +kernel
theorem dX4_pluckAt_20 : decode cX4_pluckAt 20 = .ok (.istore 5, 2) := by decide +kernel
theorem dX4_pluckAt_22 : decode cX4_pluckAt 22 = .ok (.aload_n 0, 1) := by decide +kernel
theorem dX4_pluckAt_23 : decode cX4_pluckAt 23 = .ok (.getfield 21, 3) := by decide +kernel
theorem dX4_pluckAt_26 : decode cX4_pluckAt 26 = .ok (.iload_n 1, 1) := by decide +kernel
theorem dX4_pluckAt_27 : decode cX4_pluckAt 27 = .ok (.iload_n 2, 1) := by decide +kernel
theorem dX4_pluckAt_28 : decode cX4_pluckAt 28 = .ok (.iload_n 3, 1) := by decide +kernel
theorem dX4_pluckAt_29 : decode cX4_pluckAt 29 = .ok (.invokevirtual 87, 3) := by decide +kernel
theorem dX4_pluckAt_32 : decode cX4_pluckAt 32 = .ok (.aload_n 0, 1) := by decide +kernel
theorem dX4_pluckAt_33 : decode cX4_pluckAt 33 = .ok (.getfield 21, 3) := by decide +kernel
theorem dX4_pluckAt_36 : decode cX4_pluckAt 36 = .ok (.getfield 90, 3) := by decide +kernel
theorem dX4_pluckAt_39 : decode cX4_pluckAt 39 = .ok (.iload_n 1, 1) := by decide +kernel
theorem dX4_pluckAt_40 : decode cX4_pluckAt 40 = .ok (.dup2, 1) := by decide +kernel
theorem dX4_pluckAt_41 : decode cX4_pluckAt 41 = .ok (.iaload, 1) := by decide +kernel
theorem dX4_pluckAt_42 : decode cX4_pluckAt 42 = .ok (.iconst 1, 1) := by decide +kernel
theorem dX4_pluckAt_43 : decode cX4_pluckAt 43 = .ok (.iadd, 1) := by decide +kernel
theorem dX4_pluckAt_44 : decode cX4_pluckAt 44 = .ok (.iastore, 1) := by decide +kernel
theorem dX4_pluckAt_45 : decode cX4_pluckAt 45 = .ok (.aload_n 0, 1) := by decide +kernel
theorem dX4_pluckAt_46 : decode cX4_pluckAt 46 = .ok (.getfield 28, 3) := by decide +kernel
theorem dX4_pluckAt_49 : decode cX4_pluckAt 49 = .ok (.iload_n 1, 1) := by decide +kernel
theorem dX4_pluckAt_50 : decode cX4_pluckAt 50 = .ok (.iload 4, 2) := by decide +kernel
theorem dX4_pluckAt_52 : decode cX4_pluckAt 52 = .ok (.invokevirtual 93, 3) := by decide +kernel
theorem dX4_pluckAt_55 : decode cX4_pluckAt 55 = .ok (.aload_n 0, 1) := by decide +kernel
theorem dX4_pluckAt_56 : decode cX4_pluckAt 56 = .ok (.dup, 1) := by decide +kernel
theorem dX4_pluckAt_57 : decode cX4_pluckAt 57 = .ok (.getfield 56, 3) := by decide +kernel
theorem dX4_pluckAt_60 : decode cX4_pluckAt 60 = .ok (.aload_n 0, 1) := by decide +kernel
theorem dX4_pluckAt_61 : decode cX4_pluckAt 61 = .ok (.getfield 12, 3) := by decide +kernel
theorem dX4_pluckAt_64 : decode cX4_pluckAt 64 = .ok (.iload 5, 2) := by decide +kernel
theorem dX4_pluckAt_66 : decode cX4_pluckAt 66 = .ok (.iload_n 3, 1) := by decide +kernel
theorem dX4_pluckAt_67 : decode cX4_pluckAt 67 = .ok (.aload_n 0, 1) := by decide +kernel
theorem dX4_pluckAt_68 : decode cX4_pluckAt 68 = .ok (.getfield 32, 3) := by decide +kernel
theorem dX4_pluckAt_71 : decode cX4_pluckAt 71 = .ok (.iconst 3, 1) := by decide +kernel
theorem dX4_pluckAt_72 : decode cX4_pluckAt 72 = .ok (.iaload, 1) := by decide +kernel
theorem dX4_pluckAt_73 : decode cX4_pluckAt 73 = .ok (.invokevirtual 97, 3) := by decide +kernel
theorem dX4_pluckAt_76 : decode cX4_pluckAt 76 = .ok (.iadd, 1) := by decide +kernel
theorem dX4_pluckAt_77 : decode cX4_pluckAt 77 = .ok (.putfield 56, 3) := by decide +kernel
theorem dX4_pluckAt_80 : decode cX4_pluckAt 80 = .ok (.iload 5, 2) := by decide +kernel
theorem dX4_pluckAt_82 : decode cX4_pluckAt 82 = .ok (.iload 4, 2) := by decide +kernel
theorem dX4_pluckAt_84 : decode cX4_pluckAt 84 = .ok (.if_icmp .eq 28, 3) := by decide +kernel
theorem dX4_pluckAt_87 : decode cX4_pluckAt 87 = .ok (.aload_n 0, 1) := by decide +kernel
theorem dX4_pluckAt_88 : decode cX4_pluckAt 88 = .ok (.dup, 1) := by decide +kernel
theorem dX4_pluckAt_89 : decode cX4_pluckAt 89 = .ok (.getfield 56, 3) := by decide +kernel
theorem dX4_pluckAt_92 : decode cX4_pluckAt 92 = .ok (.aload_n 0, 1) := by decide +kernel
theorem dX4_pluckAt_93 : decode cX4_pluckAt 93 = .ok (.getfield 12, 3) := by decide +kernel
theorem dX4_pluckAt_96 : decode cX4_pluckAt 96 = .ok (.iload 4, 2) := by decide +kernel
theorem dX4_pluckAt_98 : decode cX4_pluckAt 98 = .ok (.iload_n 3, 1) := by decide +kernel
theorem dX4_pluckAt_99 : decode cX4_pluckAt 99 = .ok (.aload_n 0, 1) := by decide +kernel
theorem dX4_pluckAt_100 : decode cX4_pluckAt 100 = .ok (.getfield 32, 3) := by decide +kernel
theorem dX4_pluckAt_103 : decode cX4_pluckAt 103 = .ok (.iconst 3, 1) := by decide +kernel
theorem dX4_pluckAt_104 : decode cX4_pluckAt 104 = .ok (.iaload, 1) := by decide +kernel
theorem dX4_pluckAt_105 : decode cX4_pluckAt 105 = .ok (.invokevirtual 97, 3) := by decide +kernel
theorem dX4_pluckAt_108 : decode cX4_pluckAt 108 = .ok (.iadd, 1) := by decide +kernel
theorem dX4_pluckAt_109 : decode cX4_pluckAt 109 = .ok (.putfield 56, 3) := by decide +kernel
theorem dX4_pluckAt_112 : decode cX4_pluckAt 112 = .ok (.aload_n 0, 1) := by decide +kernel
theorem dX4_pluckAt_113 : decode cX4_pluckAt 113 = .ok (.invokevirtual 67, 3) := by decide +kernel
theorem dX4_pluckAt_116 : decode cX4_pluckAt 116 = .ok (.return_, 1) := by decide +kernel
theorem dX4_isHeard_0 : decode cX4_isHeard 0 = .ok (.iload_n 1, 1) := by decide +kernel
theorem dX4_isHeard_1 : decode cX4_isHeard 1 = .ok (.ifCond .le 17, 3) := by decide +kernel
theorem dX4_isHeard_4 : decode cX4_isHeard 4 = .ok (.iload_n 1, 1) := by decide +kernel
theorem dX4_isHeard_5 : decode cX4_isHeard 5 = .ok (.aload_n 0, 1) := by decide +kernel
theorem dX4_isHeard_6 : decode cX4_isHeard 6 = .ok (.getfield 32, 3) := by decide +kernel
theorem dX4_isHeard_9 : decode cX4_isHeard 9 = .ok (.iconst 4, 1) := by decide +kernel
theorem dX4_isHeard_10 : decode cX4_isHeard 10 = .ok (.iaload, 1) := by decide +kernel
theorem dX4_isHeard_11 : decode cX4_isHeard 11 = .ok (.if_icmp .lt 7, 3) := by decide +kernel
theorem dX4_isHeard_14 : decode cX4_isHeard 14 = .ok (.iconst 1, 1) := by decide +kernel
theorem dX4_isHeard_15 : decode cX4_isHeard 15 = .ok (.goto 4, 3) := by decide +kernel
theorem dX4_isHeard_18 : decode cX4_isHeard 18 = .ok (.iconst 0, 1) := by decide +kernel
theorem dX4_isHeard_19 : decode cX4_isHeard 19 = .ok (.ireturn, 1) := by decide +kernel
set_option maxRecDepth 20000 in
theorem ggX4_maskHeard_X5_amplitudeOf : GoodIn wsX4_maskHeard wsX5_amplitudeOf := goodIn_r _ [6, 7, 20, 21, 22, 23, 24, 25, 26] (by decide +kernel) (by decide +kernel)
set_option maxRecDepth 20000 in
theorem gX4_maskHeard_X5_amplitudeOf : GoodIn wsX4_maskHeard (wsV RX4 101 RX5 yX5_amplitudeOf wsX5_amplitudeOf) := goodIn_app (goodIn_of _ (by decide +kernel)) ggX4_maskHeard_X5_amplitudeOf
set_option maxRecDepth 20000 in
theorem ggX4_maskHeard_X4_isHeard : GoodIn wsX4_maskHeard wsX4_isHeard := goodIn_r _ [12, 13, 14, 15, 16, 17, 18, 19] (by decide +kernel) (by decide +kernel)
set_option maxRecDepth 20000 in
theorem gX4_maskHeard_X4_isHeard : GoodIn wsX4_maskHeard (wsV RX4 104 RX4 yX4_isHeard wsX4_isHeard) := goodIn_app (goodIn_of _ (by decide +kernel)) ggX4_maskHeard_X4_isHeard
theorem dX4_maskHeard_0 : decode cX4_maskHeard 0 = .ok (.iconst 0, 1) := by decide +kernel
theorem dX4_maskHeard_1 : decode cX4_maskHeard 1 = .ok (.istore_n 2, 1) := by decide +kernel
theorem dX4_maskHeard_2 : decode cX4_maskHeard 2 = .ok (.iconst 1, 1) := by decide +kernel
theorem dX4_maskHeard_3 : decode cX4_maskHeard 3 = .ok (.istore_n 3, 1) := by decide +kernel
theorem dX4_maskHeard_4 : decode cX4_maskHeard 4 = .ok (.iload_n 3, 1) := by decide +kernel
theorem dX4_maskHeard_5 : decode cX4_maskHeard 5 = .ok (.bipush 12, 2) := by decide +kernel
theorem dX4_maskHeard_7 : decode cX4_maskHeard 7 = .ok (.if_icmp .gt 33, 3) := by decide +kernel
theorem dX4_maskHeard_10 : decode cX4_maskHeard 10 = .ok (.aload_n 0, 1) := by decide +kernel
theorem dX4_maskHeard_11 : decode cX4_maskHeard 11 = .ok (.aload_n 0, 1) := by decide +kernel
theorem dX4_maskHeard_12 : decode cX4_maskHeard 12 = .ok (.getfield 21, 3) := by decide +kernel
theorem dX4_maskHeard_15 : decode cX4_maskHeard 15 = .ok (.iload_n 1, 1) := by decide +kernel
theorem dX4_maskHeard_16 : decode cX4_maskHeard 16 = .ok (.iload_n 3, 1) := by decide +kernel
theorem dX4_maskHeard_17 : decode cX4_maskHeard 17 = .ok (.invokevirtual 101, 3) := by decide +kernel
theorem dX4_maskHeard_20 : decode cX4_maskHeard 20 = .ok (.invokevirtual 104, 3) := by decide +kernel
theorem dX4_maskHeard_23 : decode cX4_maskHeard 23 = .ok (.ifCond .eq 11, 3) := by decide +kernel
theorem dX4_maskHeard_26 : decode cX4_maskHeard 26 = .ok (.iload_n 2, 1) := by decide +kernel
theorem dX4_maskHeard_27 : decode cX4_maskHeard 27 = .ok (.iconst 1, 1) := by decide +kernel
theorem dX4_maskHeard_28 : decode cX4_maskHeard 28 = .ok (.iload_n 3, 1) := by decide +kernel
theorem dX4_maskHeard_29 : decode cX4_maskHeard 29 = .ok (.iconst 1, 1) := by decide +kernel
theorem dX4_maskHeard_30 : decode cX4_maskHeard 30 = .ok (.isub, 1) := by decide +kernel
theorem dX4_maskHeard_31 : decode cX4_maskHeard 31 = .ok (.ishl, 1) := by decide +kernel
theorem dX4_maskHeard_32 : decode cX4_maskHeard 32 = .ok (.ior, 1) := by decide +kernel
theorem dX4_maskHeard_33 : decode cX4_maskHeard 33 = .ok (.istore_n 2, 1) := by decide +kernel
theorem dX4_maskHeard_34 : decode cX4_maskHeard 34 = .ok (.iinc 3 1, 3) := by decide +kernel
theorem dX4_maskHeard_37 : decode cX4_maskHeard 37 = .ok (.goto (-33), 3) := by decide +kernel
theorem dX4_maskHeard_40 : decode cX4_maskHeard 40 = .ok (.iload_n 2, 1) := by decide +kernel
theorem dX4_maskHeard_41 : decode cX4_maskHeard 41 = .ok (.ireturn, 1) := by decide +kernel
set_option maxRecDepth 20000 in
theorem ggX4_heardOf_X4_maskHeard : GoodIn wsX4_heardOf wsX4_maskHeard := goodIn_r _ [5, 6, 7, 8, 9, 10, 11, 12, 13, 14, 15, 4, 16, 17, 25, 26, 27, 28, 29, 30, 31, 32, 33, 34, 35, 36, 37] (by decide +kernel) (by decide +kernel)
set_option maxRecDepth 20000 in
theorem gX4_heardOf_X4_maskHeard : GoodIn wsX4_heardOf (wsV RX4 108 RX4 yX4_maskHeard wsX4_maskHeard) := goodIn_app (goodIn_of _ (by decide +kernel)) ggX4_heardOf_X4_maskHeard
set_option maxRecDepth 20000 in
theorem ggX4_heardOf_J6_bitCount_0f7a4 : GoodIn wsX4_heardOf wsJ6_bitCount_0f7a4 := goodIn_r _ [21, 22, 23, 24] (by decide +kernel) (by decide +kernel)
set_option maxRecDepth 20000 in
theorem gX4_heardOf_J6_bitCount_0f7a4 : GoodIn wsX4_heardOf (va_wsS RX4 111 yJ6_bitCount_0f7a4 wsJ6_bitCount_0f7a4) := goodIn_app (goodIn_of _ (by decide +kernel)) ggX4_heardOf_J6_bitCount_0f7a4
theorem dX4_heardOf_0 : decode cX4_heardOf 0 = .ok (.aload_n 0, 1) := by decide +kernel
theorem dX4_heardOf_1 : decode cX4_heardOf 1 = .ok (.iload_n 1, 1) := by decide +kernel
theorem dX4_heardOf_2 : decode cX4_heardOf 2 = .ok (.invokevirtual 108, 3) := by decide +kernel
theorem dX4_heardOf_5 : decode cX4_heardOf 5 = .ok (.invokestatic 111, 3) := by decide +kernel
theorem dX4_heardOf_8 : decode cX4_heardOf 8 = .ok (.ireturn, 1) := by decide +kernel
set_option maxRecDepth 20000 in
theorem ggX4_heardInAll_X4_heardOf : GoodIn wsX4_heardInAll wsX4_heardOf := goodIn_r _ [5, 6, 7, 8, 4, 9, 10, 11, 12, 13, 14, 15, 16, 17, 18, 19, 20, 21, 22, 23, 24, 25, 26, 27, 28, 29, 30, 31, 32, 33, 34, 35, 36, 37, 38, 39, 40, 41] (by decide +kernel) (by decide +kernel)
set_option maxRecDepth 20000 in
theorem gX4_heardInAll_X4_heardOf : GoodIn wsX4_heardInAll (wsV RX4 116 RX4 yX4_heardOf wsX4_heardOf) := goodIn_app (goodIn_of _ (by decide +kernel)) ggX4_heardInAll_X4_heardOf
theorem dX4_heardInAll_0 : decode cX4_heardInAll 0 = .ok (.iconst 0, 1) := by decide +kernel
theorem dX4_heardInAll_1 : decode cX4_heardInAll 1 = .ok (.istore_n 1, 1) := by decide +kernel
theorem dX4_heardInAll_2 : decode cX4_heardInAll 2 = .ok (.iconst 0, 1) := by decide +kernel
theorem dX4_heardInAll_3 : decode cX4_heardInAll 3 = .ok (.istore_n 2, 1) := by decide +kernel
theorem dX4_heardInAll_4 : decode cX4_heardInAll 4 = .ok (.iload_n 2, 1) := by decide +kernel
theorem dX4_heardInAll_5 : decode cX4_heardInAll 5 = .ok (.iconst 4, 1) := by decide +kernel
theorem dX4_heardInAll_6 : decode cX4_heardInAll 6 = .ok (.if_icmp .ge 17, 3) := by decide +kernel
theorem dX4_heardInAll_9 : decode cX4_heardInAll 9 = .ok (.iload_n 1, 1) := by decide +kernel
theorem dX4_heardInAll_10 : decode cX4_heardInAll 10 = .ok (.aload_n 0, 1) := by decide +kernel
theorem dX4_heardInAll_11 : decode cX4_heardInAll 11 = .ok (.iload_n 2, 1) := by decide +kernel
theorem dX4_heardInAll_12 : decode cX4_heardInAll 12 = .ok (.invokevirtual 116, 3) := by decide +kernel
theorem dX4_heardInAll_15 : decode cX4_heardInAll 15 = .ok (.iadd, 1) := by decide +kernel
theorem dX4_heardInAll_16 : decode cX4_heardInAll 16 = .ok (.istore_n 1, 1) := by decide +kernel
theorem dX4_heardInAll_17 : decode cX4_heardInAll 17 = .ok (.iinc 2 1, 3) := by decide +kernel
theorem dX4_heardInAll_20 : decode cX4_heardInAll 20 = .ok (.goto (-16), 3) := by decide +kernel
theorem dX4_heardInAll_23 : decode cX4_heardInAll 23 = .ok (.iload_n 1, 1) := by decide +kernel
theorem dX4_heardInAll_24 : decode cX4_heardInAll 24 = .ok (.ireturn, 1) := by decide +kernel
theorem dX4_amplitudeAfterTick_0 : decode cX4_amplitudeAfterTick 0 = .ok (.iload_n 1, 1) := by decide +kernel
theorem dX4_amplitudeAfterTick_1 : decode cX4_amplitudeAfterTick 1 = .ok (.istore 4, 2) := by decide +kernel
theorem dX4_amplitudeAfterTick_3 : decode cX4_amplitudeAfterTick 3 = .ok (.iload_n 3, 1) := by decide +kernel
theorem dX4_amplitudeAfterTick_4 : decode cX4_amplitudeAfterTick 4 = .ok (.ifCond .eq 21, 3) := by decide +kernel
theorem dX4_amplitudeAfterTick_7 : decode cX4_amplitudeAfterTick 7 = .ok (.iload 4, 2) := by decide +kernel
theorem dX4_amplitudeAfterTick_9 : decode cX4_amplitudeAfterTick 9 = .ok (.iload 4, 2) := by decide +kernel
theorem dX4_amplitudeAfterTick_11 : decode cX4_amplitudeAfterTick 11 = .ok (.aload_n 0, 1) := by decide +kernel
theorem dX4_amplitudeAfterTick_12 : decode cX4_amplitudeAfterTick 12 = .ok (.getfield 32, 3) := by decide +kernel
theorem dX4_amplitudeAfterTick_15 : decode cX4_amplitudeAfterTick 15 = .ok (.iconst 2, 1) := by decide +kernel
theorem dX4_amplitudeAfterTick_16 : decode cX4_amplitudeAfterTick 16 = .ok (.iaload, 1) := by decide +kernel
theorem dX4_amplitudeAfterTick_17 : decode cX4_amplitudeAfterTick 17 = .ok (.imul, 1) := by decide +kernel
theorem dX4_amplitudeAfterTick_18 : decode cX4_amplitudeAfterTick 18 = .ok (.sipush 1000, 3) := by decide +kernel
theorem dX4_amplitudeAfterTick_21 : decode cX4_amplitudeAfterTick 21 = .ok (.idiv, 1) := by decide +kernel
theorem dX4_amplitudeAfterTick_22 : decode cX4_amplitudeAfterTick 22 = .ok (.isub, 1) := by decide +kernel
theorem dX4_amplitudeAfterTick_23 : decode cX4_amplitudeAfterTick 23 = .ok (.istore 4, 2) := by decide +kernel
theorem dX4_amplitudeAfterTick_25 : decode cX4_amplitudeAfterTick 25 = .ok (.iload 4, 2) := by decide +kernel
theorem dX4_amplitudeAfterTick_27 : decode cX4_amplitudeAfterTick 27 = .ok (.iload 4, 2) := by decide +kernel
theorem dX4_amplitudeAfterTick_29 : decode cX4_amplitudeAfterTick 29 = .ok (.aload_n 0, 1) := by decide +kernel
theorem dX4_amplitudeAfterTick_30 : decode cX4_amplitudeAfterTick 30 = .ok (.getfield 32, 3) := by decide +kernel
theorem dX4_amplitudeAfterTick_33 : decode cX4_amplitudeAfterTick 33 = .ok (.iconst 0, 1) := by decide +kernel
theorem dX4_amplitudeAfterTick_34 : decode cX4_amplitudeAfterTick 34 = .ok (.iaload, 1) := by decide +kernel
theorem dX4_amplitudeAfterTick_35 : decode cX4_amplitudeAfterTick 35 = .ok (.aload_n 0, 1) := by decide +kernel
theorem dX4_amplitudeAfterTick_36 : decode cX4_amplitudeAfterTick 36 = .ok (.getfield 32, 3) := by decide +kernel
theorem dX4_amplitudeAfterTick_39 : decode cX4_amplitudeAfterTick 39 = .ok (.iconst 1, 1) := by decide +kernel
theorem dX4_amplitudeAfterTick_40 : decode cX4_amplitudeAfterTick 40 = .ok (.iaload, 1) := by decide +kernel
theorem dX4_amplitudeAfterTick_41 : decode cX4_amplitudeAfterTick 41 = .ok (.iload_n 2, 1) := by decide +kernel
theorem dX4_amplitudeAfterTick_42 : decode cX4_amplitudeAfterTick 42 = .ok (.iconst 1, 1) := by decide +kernel
theorem dX4_amplitudeAfterTick_43 : decode cX4_amplitudeAfterTick 43 = .ok (.isub, 1) := by decide +kernel
theorem dX4_amplitudeAfterTick_44 : decode cX4_amplitudeAfterTick 44 = .ok (.imul, 1) := by decide +kernel
theorem dX4_amplitudeAfterTick_45 : decode cX4_amplitudeAfterTick 45 = .ok (.iadd, 1) := by decide +kernel
theorem dX4_amplitudeAfterTick_46 : decode cX4_amplitudeAfterTick 46 = .ok (.imul, 1) := by decide +kernel
theorem dX4_amplitudeAfterTick_47 : decode cX4_amplitudeAfterTick 47 = .ok (.sipush 1000, 3) := by decide +kernel
theorem dX4_amplitudeAfterTick_50 : decode cX4_amplitudeAfterTick 50 = .ok (.idiv, 1) := by decide +kernel
theorem dX4_amplitudeAfterTick_51 : decode cX4_amplitudeAfterTick 51 = .ok (.isub, 1) := by decide +kernel
theorem dX4_amplitudeAfterTick_52 : decode cX4_amplitudeAfterTick 52 = .ok (.istore 4, 2) := by decide +kernel
theorem dX4_amplitudeAfterTick_54 : decode cX4_amplitudeAfterTick 54 = .ok (.iload 4, 2) := by decide +kernel
theorem dX4_amplitudeAfterTick_56 : decode cX4_amplitudeAfterTick 56 = .ok (.ifCond .le 10, 3) := by decide +kernel
theorem dX4_amplitudeAfterTick_59 : decode cX4_amplitudeAfterTick 59 = .ok (.iload 4, 2) := by decide +kernel
theorem dX4_amplitudeAfterTick_61 : decode cX4_amplitudeAfterTick 61 = .ok (.iconst 1, 1) := by decide +kernel
theorem dX4_amplitudeAfterTick_62 : decode cX4_amplitudeAfterTick 62 = .ok (.isub, 1) := by decide +kernel
theorem dX4_amplitudeAfterTick_63 : decode cX4_amplitudeAfterTick 63 = .ok (.goto 4, 3) := by decide +kernel
theorem dX4_amplitudeAfterTick_66 : decode cX4_amplitudeAfterTick 66 = .ok (.iconst 0, 1) := by decide +kernel
theorem dX4_amplitudeAfterTick_67 : decode cX4_amplitudeAfterTick 67 = .ok (.ireturn, 1) := by decide +kernel
set_option maxRecDepth 20000 in
theorem ggX4_letGoBy_X5_isDamped : GoodIn wsX4_letGoBy wsX5_isDamped := goodIn_r _ [7, 8, 9, 10, 11, 12, 6, 13, 14, 15, 16, 17, 18, 19, 20, 21, 22, 23, 24, 25, 47, 48, 49, 50, 51, 52, 53] (by decide +kernel) (by decide +kernel)
set_option maxRecDepth 20000 in
theorem gX4_letGoBy_X5_isDamped : GoodIn wsX4_letGoBy (wsV RX4 119 RX5 yX5_isDamped wsX5_isDamped) := goodIn_app (goodIn_of _ (by decide +kernel)) ggX4_letGoBy_X5_isDamped
set_option maxRecDepth 20000 in
theorem ggX4_letGoBy_X5_amplitudeOf : GoodIn wsX4_letGoBy wsX5_amplitudeOf := goodIn_r _ [29, 30, 47, 48, 49, 50, 51, 52, 53] (by decide +kernel) (by decide +kernel)
set_option maxRecDepth 20000 in
theorem gX4_letGoBy_X5_amplitudeOf : GoodIn wsX4_letGoBy (wsV RX4 101 RX5 yX5_amplitudeOf wsX5_amplitudeOf) := goodIn_app (goodIn_of _ (by decide +kernel)) ggX4_letGoBy_X5_amplitudeOf
set_option maxRecDepth 20000 in
theorem ggX4_letGoBy_X4_amplitudeAfterTick : GoodIn wsX4_letGoBy wsX4_amplitudeAfterTick := goodIn_r _ [35, 36, 41, 42, 43, 44, 45, 46] (by decide +kernel) (by decide +kernel)
set_option maxRecDepth 20000 in
theorem gX4_letGoBy_X4_amplitudeAfterTick : GoodIn wsX4_letGoBy (wsV RX4 123 RX4 yX4_amplitudeAfterTick wsX4_amplitudeAfterTick) := goodIn_app (goodIn_of _ (by decide +kernel)) ggX4_letGoBy_X4_amplitudeAfterTick
set_option maxRecDepth 20000 in
theorem ggX4_letGoBy_X5_setAmplitude : GoodIn wsX4_letGoBy wsX5_setAmplitude := goodIn_r _ [40, 30, 47, 48, 49, 50, 51, 52, 53] (by decide +kernel) (by decide +kernel)
set_option maxRecDepth 20000 in
theorem gX4_letGoBy_X5_setAmplitude : GoodIn wsX4_letGoBy (wsV RX4 127 RX5 yX5_setAmplitude wsX5_setAmplitude) := goodIn_app (goodIn_of _ (by decide +kernel)) ggX4_letGoBy_X5_setAmplitude
theorem dX4_letGoBy_0 : decode cX4_letGoBy 0 = .ok (.iconst 0, 1) := by decide +kernel
theorem dX4_letGoBy_1 : decode cX4_letGoBy 1 = .ok (.istore_n 2, 1) := by decide +kernel
theorem dX4_letGoBy_2 : decode cX4_letGoBy 2 = .ok (.iload_n 2, 1) := by decide +kernel
theorem dX4_letGoBy_3 : decode cX4_letGoBy 3 = .ok (.iconst 4, 1) := by decide +kernel
theorem dX4_letGoBy_4 : decode cX4_letGoBy 4 = .ok (.if_icmp .ge 87, 3) := by decide +kernel
theorem dX4_letGoBy_7 : decode cX4_letGoBy 7 = .ok (.iconst 1, 1) := by decide +kernel
theorem dX4_letGoBy_8 : decode cX4_letGoBy 8 = .ok (.istore_n 3, 1) := by decide +kernel
theorem dX4_letGoBy_9 : decode cX4_letGoBy 9 = .ok (.iload_n 3, 1) := by decide +kernel
theorem dX4_letGoBy_10 : decode cX4_letGoBy 10 = .ok (.bipush 12, 2) := by decide +kernel
theorem dX4_letGoBy_12 : decode cX4_letGoBy 12 = .ok (.if_icmp .gt 73, 3) := by decide +kernel
theorem dX4_letGoBy_15 : decode cX4_letGoBy 15 = .ok (.aload_n 0, 1) := by decide +kernel
theorem dX4_letGoBy_16 : decode cX4_letGoBy 16 = .ok (.getfield 21, 3) := by decide +kernel
theorem dX4_letGoBy_19 : decode cX4_letGoBy 19 = .ok (.iload_n 2, 1) := by decide +kernel
theorem dX4_letGoBy_20 : decode cX4_letGoBy 20 = .ok (.iload_n 3, 1) := by decide +kernel
theorem dX4_letGoBy_21 : decode cX4_letGoBy 21 = .ok (.invokevirtual 119, 3) := by decide +kernel
theorem dX4_letGoBy_24 : decode cX4_letGoBy 24 = .ok (.istore 4, 2) := by decide +kernel
theorem dX4_letGoBy_26 : decode cX4_letGoBy 26 = .ok (.aload_n 0, 1) := by decide +kernel
theorem dX4_letGoBy_27 : decode cX4_letGoBy 27 = .ok (.getfield 21, 3) := by decide +kernel
theorem dX4_letGoBy_30 : decode cX4_letGoBy 30 = .ok (.iload_n 2, 1) := by decide +kernel
theorem dX4_letGoBy_31 : decode cX4_letGoBy 31 = .ok (.iload_n 3, 1) := by decide +kernel
theorem dX4_letGoBy_32 : decode cX4_letGoBy 32 = .ok (.invokevirtual 101, 3) := by decide +kernel
theorem dX4_letGoBy_35 : decode cX4_letGoBy 35 = .ok (.istore 5, 2) := by decide +kernel
theorem dX4_letGoBy_37 : decode cX4_letGoBy 37 = .ok (.iconst 0, 1) := by decide +kernel
theorem dX4_letGoBy_38 : decode cX4_letGoBy 38 = .ok (.istore 6, 2) := by decide +kernel
theorem dX4_letGoBy_40 : decode cX4_letGoBy 40 = .ok (.iload 6, 2) := by decide +kernel
theorem dX4_letGoBy_42 : decode cX4_letGoBy 42 = .ok (.iload_n 1, 1) := by decide +kernel
theorem dX4_letGoBy_43 : decode cX4_letGoBy 43 = .ok (.if_icmp .ge 25, 3) := by decide +kernel
theorem dX4_letGoBy_46 : decode cX4_letGoBy 46 = .ok (.iload 5, 2) := by decide +kernel
theorem dX4_letGoBy_48 : decode cX4_letGoBy 48 = .ok (.ifCond .le 20, 3) := by decide +kernel
theorem dX4_letGoBy_51 : decode cX4_letGoBy 51 = .ok (.aload_n 0, 1) := by decide +kernel
theorem dX4_letGoBy_52 : decode cX4_letGoBy 52 = .ok (.iload 5, 2) := by decide +kernel
theorem dX4_letGoBy_54 : decode cX4_letGoBy 54 = .ok (.iload_n 3, 1) := by decide +kernel
theorem dX4_letGoBy_55 : decode cX4_letGoBy 55 = .ok (.iload 4, 2) := by decide +kernel
theorem dX4_letGoBy_57 : decode cX4_letGoBy 57 = .ok (.invokevirtual 123, 3) := by decide +kernel
theorem dX4_letGoBy_60 : decode cX4_letGoBy 60 = .ok (.istore 5, 2) := by decide +kernel
theorem dX4_letGoBy_62 : decode cX4_letGoBy 62 = .ok (.iinc 6 1, 3) := by decide +kernel
theorem dX4_letGoBy_65 : decode cX4_letGoBy 65 = .ok (.goto (-25), 3) := by decide +kernel
theorem dX4_letGoBy_68 : decode cX4_letGoBy 68 = .ok (.aload_n 0, 1) := by decide +kernel
theorem dX4_letGoBy_69 : decode cX4_letGoBy 69 = .ok (.getfield 21, 3) := by decide +kernel
theorem dX4_letGoBy_72 : decode cX4_letGoBy 72 = .ok (.iload_n 2, 1) := by decide +kernel
theorem dX4_letGoBy_73 : decode cX4_letGoBy 73 = .ok (.iload_n 3, 1) := by decide +kernel
theorem dX4_letGoBy_74 : decode cX4_letGoBy 74 = .ok (.iload 5, 2) := by decide +kernel
theorem dX4_letGoBy_76 : decode cX4_letGoBy 76 = .ok (.invokevirtual 127, 3) := by decide +kernel
theorem dX4_letGoBy_79 : decode cX4_letGoBy 79 = .ok (.iinc 3 1, 3) := by decide +kernel
theorem dX4_letGoBy_82 : decode cX4_letGoBy 82 = .ok (.goto (-73), 3) := by decide +kernel
theorem dX4_letGoBy_85 : decode cX4_letGoBy 85 = .ok (.iinc 2 1, 3) := by decide +kernel
theorem dX4_letGoBy_88 : decode cX4_letGoBy 88 = .ok (.goto (-86), 3) := by decide +kernel
theorem dX4_letGoBy_91 : decode cX4_letGoBy 91 = .ok (.aload_n 0, 1) := by decide +kernel
theorem dX4_letGoBy_92 : decode cX4_letGoBy 92 = .ok (.dup, 1) := by decide +kernel
theorem dX4_letGoBy_93 : decode cX4_letGoBy 93 = .ok (.getfield 52, 3) := by decide +kernel
theorem dX4_letGoBy_96 : decode cX4_letGoBy 96 = .ok (.iload_n 1, 1) := by decide +kernel
theorem dX4_letGoBy_97 : decode cX4_letGoBy 97 = .ok (.iadd, 1) := by decide +kernel
theorem dX4_letGoBy_98 : decode cX4_letGoBy 98 = .ok (.putfield 52, 3) := by decide +kernel
theorem dX4_letGoBy_101 : decode cX4_letGoBy 101 = .ok (.return_, 1) := by decide +kernel
set_option maxRecDepth 20000 in
theorem ggX4_ticksUntilUnheard_X5_isDamped : GoodIn wsX4_ticksUntilUnheard wsX5_isDamped := goodIn_r _ [6, 7, 8, 9, 10, 11, 5, 12, 13, 14, 15, 16, 17, 18, 19, 20, 21, 22, 23, 24, 46, 47, 48, 49, 50, 51, 52] (by decide +kernel) (by decide +kernel)
set_option maxRecDepth 20000 in
theorem gX4_ticksUntilUnheard_X5_isDamped : GoodIn wsX4_ticksUntilUnheard (wsV RX4 119 RX5 yX5_isDamped wsX5_isDamped) := goodIn_app (goodIn_of _ (by decide +kernel)) ggX4_ticksUntilUnheard_X5_isDamped
set_option maxRecDepth 20000 in
theorem ggX4_ticksUntilUnheard_X5_amplitudeOf : GoodIn wsX4_ticksUntilUnheard wsX5_amplitudeOf := goodIn_r _ [28, 29, 46, 47, 48, 49, 50, 51, 52] (by decide +kernel) (by decide +kernel)
set_option maxRecDepth 20000 in
theorem gX4_ticksUntilUnheard_X5_amplitudeOf : GoodIn wsX4_ticksUntilUnheard (wsV RX4 101 RX5 yX5_amplitudeOf wsX5_amplitudeOf) := goodIn_app (goodIn_of _ (by decide +kernel)) ggX4_ticksUntilUnheard_X5_amplitudeOf
set_option maxRecDepth 20000 in
theorem ggX4_ticksUntilUnheard_X4_isHeard : GoodIn wsX4_ticksUntilUnheard wsX4_isHeard := goodIn_r _ [34, 35, 40, 41, 42, 43, 44, 45] (by decide +kernel) (by decide +kernel)
set_option maxRecDepth 20000 in
theorem gX4_ticksUntilUnheard_X4_isHeard : GoodIn wsX4_ticksUntilUnheard (wsV RX4 104 RX4 yX4_isHeard wsX4_isHeard) := goodIn_app (goodIn_of _ (by decide +kernel)) ggX4_ticksUntilUnheard_X4_isHeard
set_option maxRecDepth 20000 in
theorem ggX4_ticksUntilUnheard_X4_amplitudeAfterTick : GoodIn wsX4_ticksUntilUnheard wsX4_amplitudeAfterTick := goodIn_r _ [39, 35, 40, 41, 42, 43, 44, 45] (by decide +kernel) (by decide +kernel)
set_option maxRecDepth 20000 in
theorem gX4_ticksUntilUnheard_X4_amplitudeAfterTick : GoodIn wsX4_ticksUntilUnheard (wsV RX4 123 RX4 yX4_amplitudeAfterTick wsX4_amplitudeAfterTick) := goodIn_app (goodIn_of _ (by decide +kernel)) ggX4_ticksUntilUnheard_X4_amplitudeAfterTick
theorem dX4_ticksUntilUnheard_0 : decode cX4_ticksUntilUnheard 0 = .ok (.aload_n 0, 1) := by decide +kernel
theorem dX4_ticksUntilUnheard_1 : decode cX4_ticksUntilUnheard 1 = .ok (.getfield 21, 3) := by decide +kernel
theorem dX4_ticksUntilUnheard_4 : decode cX4_ticksUntilUnheard 4 = .ok (.iload_n 1, 1) := by decide +kernel
theorem dX4_ticksUntilUnheard_5 : decode cX4_ticksUntilUnheard 5 = .ok (.iload_n 2, 1) := by decide +kernel
theorem dX4_ticksUntilUnheard_6 : decode cX4_ticksUntilUnheard 6 = .ok (.invokevirtual 119, 3) := by decide +kernel
theorem dX4_ticksUntilUnheard_9 : decode cX4_ticksUntilUnheard 9 = .ok (.istore_n 3, 1) := by decide +kernel
theorem dX4_ticksUntilUnheard_10 : decode cX4_ticksUntilUnheard 10 = .ok (.aload_n 0, 1) := by decide +kernel
theorem dX4_ticksUntilUnheard_11 : decode cX4_ticksUntilUnheard 11 = .ok (.getfield 21, 3) := by decide +kernel
theorem dX4_ticksUntilUnheard_14 : decode cX4_ticksUntilUnheard 14 = .ok (.iload_n 1, 1) := by decide +kernel
theorem dX4_ticksUntilUnheard_15 : decode cX4_ticksUntilUnheard 15 = .ok (.iload_n 2, 1) := by decide +kernel
theorem dX4_ticksUntilUnheard_16 : decode cX4_ticksUntilUnheard 16 = .ok (.invokevirtual 101, 3) := by decide +kernel
theorem dX4_ticksUntilUnheard_19 : decode cX4_ticksUntilUnheard 19 = .ok (.istore 4, 2) := by decide +kernel
theorem dX4_ticksUntilUnheard_21 : decode cX4_ticksUntilUnheard 21 = .ok (.iconst 0, 1) := by decide +kernel
theorem dX4_ticksUntilUnheard_22 : decode cX4_ticksUntilUnheard 22 = .ok (.istore 5, 2) := by decide +kernel
theorem dX4_ticksUntilUnheard_24 : decode cX4_ticksUntilUnheard 24 = .ok (.iload 5, 2) := by decide +kernel
theorem dX4_ticksUntilUnheard_26 : decode cX4_ticksUntilUnheard 26 = .ok (.sipush 2000, 3) := by decide +kernel
theorem dX4_ticksUntilUnheard_29 : decode cX4_ticksUntilUnheard 29 = .ok (.if_icmp .gt 31, 3) := by decide +kernel
theorem dX4_ticksUntilUnheard_32 : decode cX4_ticksUntilUnheard 32 = .ok (.aload_n 0, 1) := by decide +kernel
theorem dX4_ticksUntilUnheard_33 : decode cX4_ticksUntilUnheard 33 = .ok (.iload 4, 2) := by decide +kernel
theorem dX4_ticksUntilUnheard_35 : decode cX4_ticksUntilUnheard 35 = .ok (.invokevirtual 104, 3) := by decide +kernel
theorem dX4_ticksUntilUnheard_38 : decode cX4_ticksUntilUnheard 38 = .ok (.ifCond .ne 6, 3) := by decide +kernel
theorem dX4_ticksUntilUnheard_41 : decode cX4_ticksUntilUnheard 41 = .ok (.iload 5, 2) := by decide +kernel
theorem dX4_ticksUntilUnheard_43 : decode cX4_ticksUntilUnheard 43 = .ok (.ireturn, 1) := by decide +kernel
theorem dX4_ticksUntilUnheard_44 : decode cX4_ticksUntilUnheard 44 = .ok (.aload_n 0, 1) := by decide +kernel
theorem dX4_ticksUntilUnheard_45 : decode cX4_ticksUntilUnheard 45 = .ok (.iload 4, 2) := by decide +kernel
theorem dX4_ticksUntilUnheard_47 : decode cX4_ticksUntilUnheard 47 = .ok (.iload_n 2, 1) := by decide +kernel
theorem dX4_ticksUntilUnheard_48 : decode cX4_ticksUntilUnheard 48 = .ok (.iload_n 3, 1) := by decide +kernel
theorem dX4_ticksUntilUnheard_49 : decode cX4_ticksUntilUnheard 49 = .ok (.invokevirtual 123, 3) := by decide +kernel
theorem dX4_ticksUntilUnheard_52 : decode cX4_ticksUntilUnheard 52 = .ok (.istore 4, 2) := by decide +kernel
theorem dX4_ticksUntilUnheard_54 : decode cX4_ticksUntilUnheard 54 = .ok (.iinc 5 1, 3) := by decide +kernel
theorem dX4_ticksUntilUnheard_57 : decode cX4_ticksUntilUnheard 57 = .ok (.goto (-33), 3) := by decide +kernel
theorem dX4_ticksUntilUnheard_60 : decode cX4_ticksUntilUnheard 60 = .ok (.bipush (-4), 2) := by decide +kernel
theorem dX4_ticksUntilUnheard_62 : decode cX4_ticksUntilUnheard 62 = .ok (.ireturn, 1) := by decide +kernel
set_option maxRecDepth 20000 in
theorem ggX4_beatOf_X5_amplitudeOf : GoodIn wsX4_beatOf wsX5_amplitudeOf := goodIn_r _ [10, 11, 34, 35, 36, 37, 38, 39, 40] (by decide +kernel) (by decide +kernel)
set_option maxRecDepth 20000 in
theorem gX4_beatOf_X5_amplitudeOf : GoodIn wsX4_beatOf (wsV RX4 101 RX5 yX5_amplitudeOf wsX5_amplitudeOf) := goodIn_app (goodIn_of _ (by decide +kernel)) ggX4_beatOf_X5_amplitudeOf
set_option maxRecDepth 20000 in
theorem ggX4_beatOf_X4_isHeard : GoodIn wsX4_beatOf wsX4_isHeard := goodIn_r _ [16, 17, 28, 29, 30, 31, 32, 33] (by decide +kernel) (by decide +kernel)
set_option maxRecDepth 20000 in
theorem gX4_beatOf_X4_isHeard : GoodIn wsX4_beatOf (wsV RX4 104 RX4 yX4_isHeard wsX4_isHeard) := goodIn_app (goodIn_of _ (by decide +kernel)) ggX4_beatOf_X4_isHeard
set_option maxRecDepth 20000 in
theorem ggX4_beatOf_X5_pitchOf : GoodIn wsX4_beatOf wsX5_pitchOf := goodIn_r _ [21, 22, 23, 24, 25, 9, 26, 27, 34, 35, 36, 37, 38, 39, 40] (by decide +kernel) (by decide +kernel)
set_option maxRecDepth 20000 in
theorem gX4_beatOf_X5_pitchOf : GoodIn wsX4_beatOf (wsV RX4 130 RX5 yX5_pitchOf wsX5_pitchOf) := goodIn_app (goodIn_of _ (by decide +kernel)) ggX4_beatOf_X5_pitchOf
theorem dX4_beatOf_0 : decode cX4_beatOf 0 = .ok (.aload_n 0, 1) := by decide +kernel
theorem dX4_beatOf_1 : decode cX4_beatOf 1 = .ok (.aload_n 0, 1) := by decide +kernel
theorem dX4_beatOf_2 : decode cX4_beatOf 2 = .ok (.getfield 21, 3) := by decide +kernel
theorem dX4_beatOf_5 : decode cX4_beatOf 5 = .ok (.iload_n 1, 1) := by decide +kernel
theorem dX4_beatOf_6 : decode cX4_beatOf 6 = .ok (.iload_n 2, 1) := by decide +kernel
theorem dX4_beatOf_7 : decode cX4_beatOf 7 = .ok (.invokevirtual 101, 3) := by decide +kernel
theorem dX4_beatOf_10 : decode cX4_beatOf 10 = .ok (.invokevirtual 104, 3) := by decide +kernel
theorem dX4_beatOf_13 : decode cX4_beatOf 13 = .ok (.ifCond .eq 20, 3) := by decide +kernel
theorem dX4_beatOf_16 : decode cX4_beatOf 16 = .ok (.aload_n 0, 1) := by decide +kernel
theorem dX4_beatOf_17 : decode cX4_beatOf 17 = .ok (.aload_n 0, 1) := by decide +kernel
theorem dX4_beatOf_18 : decode cX4_beatOf 18 = .ok (.getfield 21, 3) := by decide +kernel
theorem dX4_beatOf_21 : decode cX4_beatOf 21 = .ok (.iload_n 3, 1) := by decide +kernel
theorem dX4_beatOf_22 : decode cX4_beatOf 22 = .ok (.iload 4, 2) := by decide +kernel
theorem dX4_beatOf_24 : decode cX4_beatOf 24 = .ok (.invokevirtual 101, 3) := by decide +kernel
theorem dX4_beatOf_27 : decode cX4_beatOf 27 = .ok (.invokevirtual 104, 3) := by decide +kernel
theorem dX4_beatOf_30 : decode cX4_beatOf 30 = .ok (.ifCond .ne 5, 3) := by decide +kernel
theorem dX4_beatOf_33 : decode cX4_beatOf 33 = .ok (.iconst 0, 1) := by decide +kernel
theorem dX4_beatOf_34 : decode cX4_beatOf 34 = .ok (.ireturn, 1) := by decide +kernel
theorem dX4_beatOf_35 : decode cX4_beatOf 35 = .ok (.aload_n 0, 1) := by decide +kernel
theorem dX4_beatOf_36 : decode cX4_beatOf 36 = .ok (.getfield 21, 3) := by decide +kernel
theorem dX4_beatOf_39 : decode cX4_beatOf 39 = .ok (.iload_n 1, 1) := by decide +kernel
theorem dX4_beatOf_40 : decode cX4_beatOf 40 = .ok (.iload_n 2, 1) := by decide +kernel
theorem dX4_beatOf_41 : decode cX4_beatOf 41 = .ok (.invokevirtual 130, 3) := by decide +kernel
theorem dX4_beatOf_44 : decode cX4_beatOf 44 = .ok (.aload_n 0, 1) := by decide +kernel
theorem dX4_beatOf_45 : decode cX4_beatOf 45 = .ok (.getfield 21, 3) := by decide +kernel
theorem dX4_beatOf_48 : decode cX4_beatOf 48 = .ok (.iload_n 3, 1) := by decide +kernel
theorem dX4_beatOf_49 : decode cX4_beatOf 49 = .ok (.iload 4, 2) := by decide +kernel
theorem dX4_beatOf_51 : decode cX4_beatOf 51 = .ok (.invokevirtual 130, 3) := by decide +kernel
theorem dX4_beatOf_54 : decode cX4_beatOf 54 = .ok (.isub, 1) := by decide +kernel
theorem dX4_beatOf_55 : decode cX4_beatOf 55 = .ok (.invokestatic 133, 3) := by decide +kernel
theorem dX4_beatOf_58 : decode cX4_beatOf 58 = .ok (.ireturn, 1) := by decide +kernel
set_option maxRecDepth 20000 in
theorem ggX4_slowestBeat_X4_beatOf : GoodIn wsX4_slowestBeat wsX4_beatOf := goodIn_r _ [5, 6, 7, 8, 9, 10, 11, 12, 13, 14, 15, 16, 17, 18, 19, 4, 20, 21, 22, 23, 24, 25, 26, 27, 28, 29, 30, 31, 32, 33, 34, 35, 36, 37, 38, 39, 40, 41, 42, 43, 44] (by decide +kernel) (by decide +kernel)
set_option maxRecDepth 20000 in
theorem gX4_slowestBeat_X4_beatOf : GoodIn wsX4_slowestBeat (wsV RX4 138 RX4 yX4_beatOf wsX4_beatOf) := goodIn_app (goodIn_of _ (by decide +kernel)) ggX4_slowestBeat_X4_beatOf
theorem dX4_slowestBeat_0 : decode cX4_slowestBeat 0 = .ok (.iconst 0, 1) := by decide +kernel
theorem dX4_slowestBeat_1 : decode cX4_slowestBeat 1 = .ok (.istore 4, 2) := by decide +kernel
theorem dX4_slowestBeat_3 : decode cX4_slowestBeat 3 = .ok (.iconst 0, 1) := by decide +kernel
theorem dX4_slowestBeat_4 : decode cX4_slowestBeat 4 = .ok (.istore 5, 2) := by decide +kernel
theorem dX4_slowestBeat_6 : decode cX4_slowestBeat 6 = .ok (.iconst 0, 1) := by decide +kernel
theorem dX4_slowestBeat_7 : decode cX4_slowestBeat 7 = .ok (.istore 6, 2) := by decide +kernel
theorem dX4_slowestBeat_9 : decode cX4_slowestBeat 9 = .ok (.iconst 1, 1) := by decide +kernel
theorem dX4_slowestBeat_10 : decode cX4_slowestBeat 10 = .ok (.istore 7, 2) := by decide +kernel
theorem dX4_slowestBeat_12 : decode cX4_slowestBeat 12 = .ok (.iload 7, 2) := by decide +kernel
theorem dX4_slowestBeat_14 : decode cX4_slowestBeat 14 = .ok (.bipush 12, 2) := by decide +kernel
theorem dX4_slowestBeat_16 : decode cX4_slowestBeat 16 = .ok (.if_icmp .gt 66, 3) := by decide +kernel
theorem dX4_slowestBeat_19 : decode cX4_slowestBeat 19 = .ok (.iconst 1, 1) := by decide +kernel
theorem dX4_slowestBeat_20 : decode cX4_slowestBeat 20 = .ok (.istore 8, 2) := by decide +kernel
theorem dX4_slowestBeat_22 : decode cX4_slowestBeat 22 = .ok (.iload 8, 2) := by decide +kernel
theorem dX4_slowestBeat_24 : decode cX4_slowestBeat 24 = .ok (.bipush 12, 2) := by decide +kernel
theorem dX4_slowestBeat_26 : decode cX4_slowestBeat 26 = .ok (.if_icmp .gt 50, 3) := by decide +kernel
theorem dX4_slowestBeat_29 : decode cX4_slowestBeat 29 = .ok (.aload_n 0, 1) := by decide +kernel
theorem dX4_slowestBeat_30 : decode cX4_slowestBeat 30 = .ok (.iload_n 1, 1) := by decide +kernel
theorem dX4_slowestBeat_31 : decode cX4_slowestBeat 31 = .ok (.iload 7, 2) := by decide +kernel
theorem dX4_slowestBeat_33 : decode cX4_slowestBeat 33 = .ok (.iload_n 2, 1) := by decide +kernel
theorem dX4_slowestBeat_34 : decode cX4_slowestBeat 34 = .ok (.iload 8, 2) := by decide +kernel
theorem dX4_slowestBeat_36 : decode cX4_slowestBeat 36 = .ok (.invokevirtual 138, 3) := by decide +kernel
theorem dX4_slowestBeat_39 : decode cX4_slowestBeat 39 = .ok (.istore 9, 2) := by decide +kernel
theorem dX4_slowestBeat_41 : decode cX4_slowestBeat 41 = .ok (.iload 9, 2) := by decide +kernel
theorem dX4_slowestBeat_43 : decode cX4_slowestBeat 43 = .ok (.ifCond .le 27, 3) := by decide +kernel
theorem dX4_slowestBeat_46 : decode cX4_slowestBeat 46 = .ok (.iload 4, 2) := by decide +kernel
theorem dX4_slowestBeat_48 : decode cX4_slowestBeat 48 = .ok (.ifCond .eq 10, 3) := by decide +kernel
theorem dX4_slowestBeat_51 : decode cX4_slowestBeat 51 = .ok (.iload 9, 2) := by decide +kernel
theorem dX4_slowestBeat_53 : decode cX4_slowestBeat 53 = .ok (.iload 4, 2) := by decide +kernel
theorem dX4_slowestBeat_55 : decode cX4_slowestBeat 55 = .ok (.if_icmp .ge 15, 3) := by decide +kernel
theorem dX4_slowestBeat_58 : decode cX4_slowestBeat 58 = .ok (.iload 9, 2) := by decide +kernel
theorem dX4_slowestBeat_60 : decode cX4_slowestBeat 60 = .ok (.istore 4, 2) := by decide +kernel
theorem dX4_slowestBeat_62 : decode cX4_slowestBeat 62 = .ok (.iload 7, 2) := by decide +kernel
theorem dX4_slowestBeat_64 : decode cX4_slowestBeat 64 = .ok (.istore 5, 2) := by decide +kernel
theorem dX4_slowestBeat_66 : decode cX4_slowestBeat 66 = .ok (.iload 8, 2) := by decide +kernel
theorem dX4_slowestBeat_68 : decode cX4_slowestBeat 68 = .ok (.istore 6, 2) := by decide +kernel
theorem dX4_slowestBeat_70 : decode cX4_slowestBeat 70 = .ok (.iinc 8 1, 3) := by decide +kernel
theorem dX4_slowestBeat_73 : decode cX4_slowestBeat 73 = .ok (.goto (-51), 3) := by decide +kernel
theorem dX4_slowestBeat_76 : decode cX4_slowestBeat 76 = .ok (.iinc 7 1, 3) := by decide +kernel
theorem dX4_slowestBeat_79 : decode cX4_slowestBeat 79 = .ok (.goto (-67), 3) := by decide +kernel
theorem dX4_slowestBeat_82 : decode cX4_slowestBeat 82 = .ok (.iload 4, 2) := by decide +kernel
theorem dX4_slowestBeat_84 : decode cX4_slowestBeat 84 = .ok (.ifCond .ne 6, 3) := by decide +kernel
theorem dX4_slowestBeat_87 : decode cX4_slowestBeat 87 = .ok (.bipush (-4), 2) := by decide +kernel
theorem dX4_slowestBeat_89 : decode cX4_slowestBeat 89 = .ok (.ireturn, 1) := by decide +kernel
theorem dX4_slowestBeat_90 : decode cX4_slowestBeat 90 = .ok (.iload_n 3, 1) := by decide +kernel
theorem dX4_slowestBeat_91 : decode cX4_slowestBeat 91 = .ok (.ifCond .ne 8, 3) := by decide +kernel
theorem dX4_slowestBeat_94 : decode cX4_slowestBeat 94 = .ok (.iload 4, 2) := by decide +kernel
theorem dX4_slowestBeat_96 : decode cX4_slowestBeat 96 = .ok (.goto 15, 3) := by decide +kernel
theorem dX4_slowestBeat_99 : decode cX4_slowestBeat 99 = .ok (.iload_n 3, 1) := by decide +kernel
theorem dX4_slowestBeat_100 : decode cX4_slowestBeat 100 = .ok (.iconst 1, 1) := by decide +kernel
theorem dX4_slowestBeat_101 : decode cX4_slowestBeat 101 = .ok (.if_icmp .ne 8, 3) := by decide +kernel
theorem dX4_slowestBeat_104 : decode cX4_slowestBeat 104 = .ok (.iload 5, 2) := by decide +kernel
theorem dX4_slowestBeat_106 : decode cX4_slowestBeat 106 = .ok (.goto 5, 3) := by decide +kernel
theorem dX4_slowestBeat_109 : decode cX4_slowestBeat 109 = .ok (.iload 6, 2) := by decide +kernel
theorem dX4_slowestBeat_111 : decode cX4_slowestBeat 111 = .ok (.ireturn, 1) := by decide +kernel
set_option maxRecDepth 20000 in
theorem ggX0_init_X4_init : GoodIn wsX0_init wsX4_init := goodIn_r _ [9, 10, 2, 3, 11, 12, 13, 14, 15, 16, 17, 18, 19, 20, 21, 22, 23, 24, 25, 26, 27, 28, 29, 30, 31, 32, 33, 34, 35, 36, 37, 38, 39, 40, 41, 42, 43, 44, 45, 46, 47, 48, 49, 59, 60, 61, 62, 50, 51, 52, 53, 54, 55, 63, 64, 65, 66, 67, 68, 69, 70, 71, 72] (by decide +kernel) (by decide +kernel)
set_option maxRecDepth 20000 in
theorem gX0_init_X4_init_n11 : GoodIn wsX0_init (wsX4_init) := ggX0_init_X4_init
theorem dX0_init_0 : decode cX0_init 0 = .ok (.aload_n 0, 1) := by decide +kernel
theorem dX0_init_1 : decode cX0_init 1 = .ok (.invokespecial 3, 3) := by decide +kernel
theorem dX0_init_4 : decode cX0_init 4 = .ok (.aload_n 0, 1) := by decide +kernel
theorem dX0_init_5 : decode cX0_init 5 = .ok (.iconst 4, 1) := by decide +kernel
theorem dX0_init_6 : decode cX0_init 6 = .ok (.anewarray 9, 3) := by decide +kernel
theorem dX0_init_9 : decode cX0_init 9 = .ok (.dup, 1) := by decide +kernel
theorem dX0_init_10 : decode cX0_init 10 = .ok (.iconst 0, 1) := by decide +kernel
theorem dX0_init_11 : decode cX0_init 11 = .ok (.new 9, 3) := by decide +kernel
theorem dX0_init_14 : decode cX0_init 14 = .ok (.dup, 1) := by decide +kernel
theorem dX0_init_15 : decode cX0_init 15 = .ok (.invokespecial 11, 3) := by decide +kernel
theorem dX0_init_18 : decode cX0_init 18 = .ok (.aastore, 1) := by decide +kernel
theorem dX0_init_19 : decode cX0_init 19 = .ok (.dup, 1) := by decide +kernel
theorem dX0_init_20 : decode cX0_init 20 = .ok (.iconst 1, 1) := by decide +kernel
theorem dX0_init_21 : decode cX0_init 21 = .ok (.new 9, 3) := by decide +kernel
theorem dX0_init_24 : decode cX0_init 24 = .ok (.dup, 1) := by decide +kernel
theorem dX0_init_25 : decode cX0_init 25 = .ok (.invokespecial 11, 3) := by decide +kernel
theorem dX0_init_28 : decode cX0_init 28 = .ok (.aastore, 1) := by decide +kernel
theorem dX0_init_29 : decode cX0_init 29 = .ok (.dup, 1) := by decide +kernel
theorem dX0_init_30 : decode cX0_init 30 = .ok (.iconst 2, 1) := by decide +kernel
theorem dX0_init_31 : decode cX0_init 31 = .ok (.new 9, 3) := by decide +kernel
theorem dX0_init_34 : decode cX0_init 34 = .ok (.dup, 1) := by decide +kernel
theorem dX0_init_35 : decode cX0_init 35 = .ok (.invokespecial 11, 3) := by decide +kernel
theorem dX0_init_38 : decode cX0_init 38 = .ok (.aastore, 1) := by decide +kernel
theorem dX0_init_39 : decode cX0_init 39 = .ok (.dup, 1) := by decide +kernel
theorem dX0_init_40 : decode cX0_init 40 = .ok (.iconst 3, 1) := by decide +kernel
theorem dX0_init_41 : decode cX0_init 41 = .ok (.new 9, 3) := by decide +kernel
theorem dX0_init_44 : decode cX0_init 44 = .ok (.dup, 1) := by decide +kernel
theorem dX0_init_45 : decode cX0_init 45 = .ok (.invokespecial 11, 3) := by decide +kernel
theorem dX0_init_48 : decode cX0_init 48 = .ok (.aastore, 1) := by decide +kernel
theorem dX0_init_49 : decode cX0_init 49 = .ok (.putfield 12, 3) := by decide +kernel
theorem dX0_init_52 : decode cX0_init 52 = .ok (.return_, 1) := by decide +kernel
set_option maxRecDepth 20000 in
theorem ggX0_keep_X0_rowAt : GoodIn wsX0_keep wsX0_rowAt := goodIn_r _ [7, 2, 8, 56, 57, 58] (by decide +kernel) (by decide +kernel)
set_option maxRecDepth 20000 in
theorem gX0_keep_X0_rowAt : GoodIn wsX0_keep (wsV RX0 25 RX0 yX0_rowAt wsX0_rowAt) := goodIn_app (goodIn_of _ (by decide +kernel)) ggX0_keep_X0_rowAt
set_option maxRecDepth 20000 in
theorem ggX0_keep_X4_copyFrom : GoodIn wsX0_keep wsX4_copyFrom := goodIn_r _ [13, 14, 15, 16, 17, 18, 19, 20, 21, 22, 23, 24, 25, 26, 27, 28, 29, 30, 31, 32, 33, 34, 35, 36, 37, 38, 39, 40, 41, 42, 43, 44, 45, 46, 47, 48, 49, 50, 51, 52, 53, 54, 55, 59, 60, 61, 62, 63, 64, 65, 66, 67, 68, 69, 70, 71, 72, 73, 74, 75, 76, 77, 78] (by decide +kernel) (by decide +kernel)
set_option maxRecDepth 20000 in
theorem gX0_keep_X4_copyFrom : GoodIn wsX0_keep (wsV RX0 29 RX4 yX4_copyFrom wsX4_copyFrom) := goodIn_app (goodIn_of _ (by decide +kernel)) ggX0_keep_X4_copyFrom
theorem dX0_keep_0 : decode cX0_keep 0 = .ok (.aload_n 0, 1) := by decide +kernel
theorem dX0_keep_1 : decode cX0_keep 1 = .ok (.getfield 18, 3) := by decide +kernel
theorem dX0_keep_4 : decode cX0_keep 4 = .ok (.iconst 4, 1) := by decide +kernel
theorem dX0_keep_5 : decode cX0_keep 5 = .ok (.if_icmp .lt 20, 3) := by decide +kernel
theorem dX0_keep_8 : decode cX0_keep 8 = .ok (.aload_n 0, 1) := by decide +kernel
theorem dX0_keep_9 : decode cX0_keep 9 = .ok (.aload_n 0, 1) := by decide +kernel
theorem dX0_keep_10 : decode cX0_keep 10 = .ok (.getfield 22, 3) := by decide +kernel
theorem dX0_keep_13 : decode cX0_keep 13 = .ok (.iconst 1, 1) := by decide +kernel
theorem dX0_keep_14 : decode cX0_keep 14 = .ok (.iadd, 1) := by decide +kernel
theorem dX0_keep_15 : decode cX0_keep 15 = .ok (.iconst 4, 1) := by decide +kernel
theorem dX0_keep_16 : decode cX0_keep 16 = .ok (.irem, 1) := by decide +kernel
theorem dX0_keep_17 : decode cX0_keep 17 = .ok (.putfield 22, 3) := by decide +kernel
theorem dX0_keep_20 : decode cX0_keep 20 = .ok (.aload_n 0, 1) := by decide +kernel
theorem dX0_keep_21 : decode cX0_keep 21 = .ok (.iconst 3, 1) := by decide +kernel
theorem dX0_keep_22 : decode cX0_keep 22 = .ok (.putfield 18, 3) := by decide +kernel
theorem dX0_keep_25 : decode cX0_keep 25 = .ok (.aload_n 0, 1) := by decide +kernel
theorem dX0_keep_26 : decode cX0_keep 26 = .ok (.aload_n 0, 1) := by decide +kernel
theorem dX0_keep_27 : decode cX0_keep 27 = .ok (.getfield 18, 3) := by decide +kernel
theorem dX0_keep_30 : decode cX0_keep 30 = .ok (.invokevirtual 25, 3) := by decide +kernel
theorem dX0_keep_33 : decode cX0_keep 33 = .ok (.astore_n 2, 1) := by decide +kernel
theorem dX0_keep_34 : decode cX0_keep 34 = .ok (.aload_n 2, 1) := by decide +kernel
theorem dX0_keep_35 : decode cX0_keep 35 = .ok (.ifnull 18, 3) := by decide +kernel
theorem dX0_keep_38 : decode cX0_keep 38 = .ok (.aload_n 2, 1) := by decide +kernel
theorem dX0_keep_39 : decode cX0_keep 39 = .ok (.aload_n 1, 1) := by decide +kernel
theorem dX0_keep_40 : decode cX0_keep 40 = .ok (.invokevirtual 29, 3) := by decide +kernel
theorem dX0_keep_43 : decode cX0_keep 43 = .ok (.aload_n 0, 1) := by decide +kernel
theorem dX0_keep_44 : decode cX0_keep 44 = .ok (.dup, 1) := by decide +kernel
theorem dX0_keep_45 : decode cX0_keep 45 = .ok (.getfield 18, 3) := by decide +kernel
theorem dX0_keep_48 : decode cX0_keep 48 = .ok (.iconst 1, 1) := by decide +kernel
theorem dX0_keep_49 : decode cX0_keep 49 = .ok (.iadd, 1) := by decide +kernel
theorem dX0_keep_50 : decode cX0_keep 50 = .ok (.putfield 18, 3) := by decide +kernel
theorem dX0_keep_53 : decode cX0_keep 53 = .ok (.return_, 1) := by decide +kernel
set_option maxRecDepth 20000 in
theorem ggX0_giveBack_X0_rowAt : GoodIn wsX0_giveBack wsX0_rowAt := goodIn_r _ [6, 7, 8, 56, 57, 58] (by decide +kernel) (by decide +kernel)
set_option maxRecDepth 20000 in
theorem gX0_giveBack_X0_rowAt : GoodIn wsX0_giveBack (wsV RX0 25 RX0 yX0_rowAt wsX0_rowAt) := goodIn_app (goodIn_of _ (by decide +kernel)) ggX0_giveBack_X0_rowAt
set_option maxRecDepth 20000 in
theorem ggX0_giveBack_X4_copyFrom : GoodIn wsX0_giveBack wsX4_copyFrom := goodIn_r _ [13, 14, 15, 16, 17, 18, 19, 20, 21, 22, 23, 24, 25, 26, 27, 28, 29, 30, 31, 32, 33, 34, 35, 36, 37, 38, 39, 40, 41, 42, 43, 44, 45, 46, 47, 48, 49, 50, 51, 52, 53, 54, 55, 59, 60, 61, 62, 63, 64, 65, 66, 67, 68, 69, 70, 71, 72, 73, 74, 75, 76, 77, 78] (by decide +kernel) (by decide +kernel)
set_option maxRecDepth 20000 in
theorem gX0_giveBack_X4_copyFrom : GoodIn wsX0_giveBack (wsV RX0 29 RX4 yX4_copyFrom wsX4_copyFrom) := goodIn_app (goodIn_of _ (by decide +kernel)) ggX0_giveBack_X4_copyFrom
theorem dX0_giveBack_0 : decode cX0_giveBack 0 = .ok (.aload_n 0, 1) := by decide +kernel
theorem dX0_giveBack_1 : decode cX0_giveBack 1 = .ok (.aload_n 0, 1) := by decide +kernel
theorem dX0_giveBack_2 : decode cX0_giveBack 2 = .ok (.getfield 18, 3) := by decide +kernel
theorem dX0_giveBack_5 : decode cX0_giveBack 5 = .ok (.iconst 1, 1) := by decide +kernel
theorem dX0_giveBack_6 : decode cX0_giveBack 6 = .ok (.isub, 1) := by decide +kernel
theorem dX0_giveBack_7 : decode cX0_giveBack 7 = .ok (.invokevirtual 25, 3) := by decide +kernel
theorem dX0_giveBack_10 : decode cX0_giveBack 10 = .ok (.astore_n 2, 1) := by decide +kernel
theorem dX0_giveBack_11 : decode cX0_giveBack 11 = .ok (.aload_n 2, 1) := by decide +kernel
theorem dX0_giveBack_12 : decode cX0_giveBack 12 = .ok (.ifnull 18, 3) := by decide +kernel
theorem dX0_giveBack_15 : decode cX0_giveBack 15 = .ok (.aload_n 1, 1) := by decide +kernel
theorem dX0_giveBack_16 : decode cX0_giveBack 16 = .ok (.aload_n 2, 1) := by decide +kernel
theorem dX0_giveBack_17 : decode cX0_giveBack 17 = .ok (.invokevirtual 29, 3) := by decide +kernel
theorem dX0_giveBack_20 : decode cX0_giveBack 20 = .ok (.aload_n 0, 1) := by decide +kernel
theorem dX0_giveBack_21 : decode cX0_giveBack 21 = .ok (.dup, 1) := by decide +kernel
theorem dX0_giveBack_22 : decode cX0_giveBack 22 = .ok (.getfield 18, 3) := by decide +kernel
theorem dX0_giveBack_25 : decode cX0_giveBack 25 = .ok (.iconst 1, 1) := by decide +kernel
theorem dX0_giveBack_26 : decode cX0_giveBack 26 = .ok (.isub, 1) := by decide +kernel
theorem dX0_giveBack_27 : decode cX0_giveBack 27 = .ok (.putfield 18, 3) := by decide +kernel
theorem dX0_giveBack_30 : decode cX0_giveBack 30 = .ok (.return_, 1) := by decide +kernel
theorem dX0_rowAt_0 : decode cX0_rowAt 0 = .ok (.aload_n 0, 1) := by decide +kernel
theorem dX0_rowAt_1 : decode cX0_rowAt 1 = .ok (.getfield 22, 3) := by decide +kernel
theorem dX0_rowAt_4 : decode cX0_rowAt 4 = .ok (.iload_n 1, 1) := by decide +kernel
theorem dX0_rowAt_5 : decode cX0_rowAt 5 = .ok (.iadd, 1) := by decide +kernel
theorem dX0_rowAt_6 : decode cX0_rowAt 6 = .ok (.iconst 4, 1) := by decide +kernel
theorem dX0_rowAt_7 : decode cX0_rowAt 7 = .ok (.irem, 1) := by decide +kernel
theorem dX0_rowAt_8 : decode cX0_rowAt 8 = .ok (.istore_n 2, 1) := by decide +kernel
theorem dX0_rowAt_9 : decode cX0_rowAt 9 = .ok (.iload_n 1, 1) := by decide +kernel
theorem dX0_rowAt_10 : decode cX0_rowAt 10 = .ok (.ifCond .lt 25, 3) := by decide +kernel
theorem dX0_rowAt_13 : decode cX0_rowAt 13 = .ok (.iload_n 2, 1) := by decide +kernel
theorem dX0_rowAt_14 : decode cX0_rowAt 14 = .ok (.ifCond .lt 21, 3) := by decide +kernel
theorem dX0_rowAt_17 : decode cX0_rowAt 17 = .ok (.iload_n 2, 1) := by decide +kernel
theorem dX0_rowAt_18 : decode cX0_rowAt 18 = .ok (.aload_n 0, 1) := by decide +kernel
theorem dX0_rowAt_19 : decode cX0_rowAt 19 = .ok (.getfield 12, 3) := by decide +kernel
theorem dX0_rowAt_22 : decode cX0_rowAt 22 = .ok (.arraylength, 1) := by decide +kernel
theorem dX0_rowAt_23 : decode cX0_rowAt 23 = .ok (.if_icmp .ge 12, 3) := by decide +kernel
theorem dX0_rowAt_26 : decode cX0_rowAt 26 = .ok (.aload_n 0, 1) := by decide +kernel
theorem dX0_rowAt_27 : decode cX0_rowAt 27 = .ok (.getfield 12, 3) := by decide +kernel
theorem dX0_rowAt_30 : decode cX0_rowAt 30 = .ok (.iload_n 2, 1) := by decide +kernel
theorem dX0_rowAt_31 : decode cX0_rowAt 31 = .ok (.aaload, 1) := by decide +kernel
theorem dX0_rowAt_32 : decode cX0_rowAt 32 = .ok (.goto 4, 3) := by decide +kernel
theorem dX0_rowAt_35 : decode cX0_rowAt 35 = .ok (.aconst_null, 1) := by decide +kernel
theorem dX0_rowAt_36 : decode cX0_rowAt 36 = .ok (.areturn, 1) := by decide +kernel
