set_option maxRecDepth 20000 in
theorem ggX6_init_X4_init : GoodIn wsX6_init wsX4_init := goodIn_r _ [17, 18, 2, 3, 19, 20, 21, 22, 23, 24, 25, 26, 27, 28, 29, 30, 31, 32, 33, 34, 35, 36, 37, 38, 39, 40, 41, 42, 43, 44, 45, 46, 47, 48, 49, 50, 51, 52, 53, 54, 55, 56, 57, 89, 90, 91, 92, 68, 69, 70, 71, 72, 73, 93, 94, 95, 96, 97, 98, 99, 100, 101, 102] (by decide +kernel) (by decide +kernel)
set_option maxRecDepth 20000 in
theorem gX6_init_X4_init_n9 : GoodIn wsX6_init (wsX4_init) := ggX6_init_X4_init
set_option maxRecDepth 20000 in
theorem ggX6_init_X0_init : GoodIn wsX6_init wsX0_init := goodIn_r _ [59, 60, 2, 3, 61, 5, 6, 62, 16, 17, 18, 19, 20, 21, 22, 23, 24, 25, 26, 27, 28, 29, 30, 31, 32, 33, 34, 35, 36, 37, 38, 39, 40, 41, 42, 43, 44, 45, 46, 47, 48, 49, 50, 51, 52, 53, 54, 55, 56, 57, 68, 69, 70, 71, 72, 73, 77, 78, 79, 89, 90, 91, 92, 93, 94, 95, 96, 97, 98, 99, 100, 101, 102] (by decide +kernel) (by decide +kernel)
set_option maxRecDepth 20000 in
theorem gX6_init_X0_init_n18 : GoodIn wsX6_init (wsX0_init) := ggX6_init_X0_init
set_option maxRecDepth 20000 in
theorem ggX6_init_X3_init : GoodIn wsX6_init wsX3_init := goodIn_r _ [64, 65, 2, 3, 66, 67, 80, 81, 82, 83, 84, 85, 86, 87, 88] (by decide +kernel) (by decide +kernel)
set_option maxRecDepth 20000 in
theorem gX6_init_X3_init_n25 : GoodIn wsX6_init (wsX3_init) := ggX6_init_X3_init
theorem dX6_init_0 : decode cX6_init 0 = .ok (.aload_n 0, 1) := by decide +kernel
theorem dX6_init_1 : decode cX6_init 1 = .ok (.invokespecial 1, 3) := by decide +kernel
theorem dX6_init_4 : decode cX6_init 4 = .ok (.aload_n 0, 1) := by decide +kernel
theorem dX6_init_5 : decode cX6_init 5 = .ok (.new 7, 3) := by decide +kernel
theorem dX6_init_8 : decode cX6_init 8 = .ok (.dup, 1) := by decide +kernel
theorem dX6_init_9 : decode cX6_init 9 = .ok (.invokespecial 9, 3) := by decide +kernel
theorem dX6_init_12 : decode cX6_init 12 = .ok (.putfield 10, 3) := by decide +kernel
theorem dX6_init_15 : decode cX6_init 15 = .ok (.aload_n 0, 1) := by decide +kernel
theorem dX6_init_16 : decode cX6_init 16 = .ok (.new 16, 3) := by decide +kernel
theorem dX6_init_19 : decode cX6_init 19 = .ok (.dup, 1) := by decide +kernel
theorem dX6_init_20 : decode cX6_init 20 = .ok (.invokespecial 18, 3) := by decide +kernel
theorem dX6_init_23 : decode cX6_init 23 = .ok (.putfield 19, 3) := by decide +kernel
theorem dX6_init_26 : decode cX6_init 26 = .ok (.aload_n 0, 1) := by decide +kernel
theorem dX6_init_27 : decode cX6_init 27 = .ok (.new 23, 3) := by decide +kernel
theorem dX6_init_30 : decode cX6_init 30 = .ok (.dup, 1) := by decide +kernel
theorem dX6_init_31 : decode cX6_init 31 = .ok (.invokespecial 25, 3) := by decide +kernel
theorem dX6_init_34 : decode cX6_init 34 = .ok (.putfield 26, 3) := by decide +kernel
theorem dX6_init_37 : decode cX6_init 37 = .ok (.return_, 1) := by decide +kernel
set_option maxRecDepth 20000 in
theorem ggX6_fret_X6_isWithin : GoodIn wsX6_fret wsX6_isWithin := goodIn_r _ [8] (by decide +kernel) (by decide +kernel)
set_option maxRecDepth 20000 in
theorem gX6_fret_X6_isWithin : GoodIn wsX6_fret (va_wsS RX6 30 yX6_isWithin wsX6_isWithin) := goodIn_app (goodIn_of _ (by decide +kernel)) ggX6_fret_X6_isWithin
set_option maxRecDepth 20000 in
theorem ggX6_fret_X1_isTaken : GoodIn wsX6_fret wsX1_isTaken := goodIn_r _ [13, 14, 15, 16, 17, 12, 18, 19, 20, 21, 22, 23, 6, 7, 8, 135, 136, 137, 138] (by decide +kernel) (by decide +kernel)
set_option maxRecDepth 20000 in
theorem gX6_fret_X1_isTaken : GoodIn wsX6_fret (wsV RX6 38 RX1 yX1_isTaken wsX1_isTaken) := goodIn_app (goodIn_of _ (by decide +kernel)) ggX6_fret_X1_isTaken
set_option maxRecDepth 20000 in
theorem ggX6_fret_X0_keep : GoodIn wsX6_fret wsX0_keep := goodIn_r _ [28, 29, 30, 31, 32, 33, 27, 34, 35, 36, 37, 38, 39, 40, 41, 42, 43, 44, 45, 46, 47, 48, 49, 50, 51, 52, 53, 12, 54, 14, 19, 55, 56, 57, 58, 59, 60, 61, 62, 63, 64, 65, 66, 67, 68, 69, 70, 71, 72, 73, 74, 75, 76, 77, 78, 79, 139, 140, 141, 129, 130, 131, 132, 133, 134, 135, 136, 137, 138, 142, 143, 144, 145, 146, 147, 148, 149, 150, 151] (by decide +kernel) (by decide +kernel)
set_option maxRecDepth 20000 in
theorem gX6_fret_X0_keep : GoodIn wsX6_fret (wsV RX6 48 RX0 yX0_keep wsX0_keep) := goodIn_app (goodIn_of _ (by decide +kernel)) ggX6_fret_X0_keep
set_option maxRecDepth 20000 in
theorem ggX6_fret_X4_insertFret : GoodIn wsX6_fret wsX4_insertFret := goodIn_r _ [83, 41, 42, 84, 85, 86, 12, 87, 14, 19, 56, 57, 88, 89, 90, 61, 91, 65, 92, 93, 94, 39, 95, 96, 97, 98, 99, 100, 20, 21, 22, 23, 6, 7, 8, 101, 102, 103, 104, 15, 16, 17, 18, 105, 106, 107, 108, 109, 110, 111, 112, 113, 114, 115, 116, 117, 69, 68, 118, 119, 120, 121, 122, 123, 124, 125, 70, 129, 130, 131, 132, 133, 134, 135, 136, 137, 138, 142, 143, 144, 145, 146, 147, 148] (by decide +kernel) (by decide +kernel)
set_option maxRecDepth 20000 in
theorem gX6_fret_X4_insertFret : GoodIn wsX6_fret (wsV RX6 52 RX4 yX4_insertFret wsX4_insertFret) := goodIn_app (goodIn_of _ (by decide +kernel)) ggX6_fret_X4_insertFret
theorem dX6_fret_0 : decode cX6_fret 0 = .ok (.iload_n 1, 1) := by decide +kernel
theorem dX6_fret_1 : decode cX6_fret 1 = .ok (.iconst 1, 1) := by decide +kernel
theorem dX6_fret_2 : decode cX6_fret 2 = .ok (.sipush 2400, 3) := by decide +kernel
theorem dX6_fret_5 : decode cX6_fret 5 = .ok (.invokestatic 30, 3) := by decide +kernel
theorem dX6_fret_8 : decode cX6_fret 8 = .ok (.ifCond .eq 14, 3) := by decide +kernel
theorem dX6_fret_11 : decode cX6_fret 11 = .ok (.iload_n 2, 1) := by decide +kernel
theorem dX6_fret_12 : decode cX6_fret 12 = .ok (.iconst 0, 1) := by decide +kernel
theorem dX6_fret_13 : decode cX6_fret 13 = .ok (.sipush 2000, 3) := by decide +kernel
theorem dX6_fret_16 : decode cX6_fret 16 = .ok (.invokestatic 30, 3) := by decide +kernel
theorem dX6_fret_19 : decode cX6_fret 19 = .ok (.ifCond .ne 5, 3) := by decide +kernel
theorem dX6_fret_22 : decode cX6_fret 22 = .ok (.iconst (-1), 1) := by decide +kernel
theorem dX6_fret_23 : decode cX6_fret 23 = .ok (.ireturn, 1) := by decide +kernel
theorem dX6_fret_24 : decode cX6_fret 24 = .ok (.aload_n 0, 1) := by decide +kernel
theorem dX6_fret_25 : decode cX6_fret 25 = .ok (.getfield 10, 3) := by decide +kernel
theorem dX6_fret_28 : decode cX6_fret 28 = .ok (.getfield 34, 3) := by decide +kernel
theorem dX6_fret_31 : decode cX6_fret 31 = .ok (.iload_n 1, 1) := by decide +kernel
theorem dX6_fret_32 : decode cX6_fret 32 = .ok (.invokevirtual 38, 3) := by decide +kernel
theorem dX6_fret_35 : decode cX6_fret 35 = .ok (.ifCond .eq 6, 3) := by decide +kernel
theorem dX6_fret_38 : decode cX6_fret 38 = .ok (.bipush (-2), 2) := by decide +kernel
theorem dX6_fret_40 : decode cX6_fret 40 = .ok (.ireturn, 1) := by decide +kernel
theorem dX6_fret_41 : decode cX6_fret 41 = .ok (.aload_n 0, 1) := by decide +kernel
theorem dX6_fret_42 : decode cX6_fret 42 = .ok (.getfield 10, 3) := by decide +kernel
theorem dX6_fret_45 : decode cX6_fret 45 = .ok (.getfield 34, 3) := by decide +kernel
theorem dX6_fret_48 : decode cX6_fret 48 = .ok (.getfield 44, 3) := by decide +kernel
theorem dX6_fret_51 : decode cX6_fret 51 = .ok (.bipush 12, 2) := by decide +kernel
theorem dX6_fret_53 : decode cX6_fret 53 = .ok (.if_icmp .lt 6, 3) := by decide +kernel
theorem dX6_fret_56 : decode cX6_fret 56 = .ok (.bipush (-3), 2) := by decide +kernel
theorem dX6_fret_58 : decode cX6_fret 58 = .ok (.ireturn, 1) := by decide +kernel
theorem dX6_fret_59 : decode cX6_fret 59 = .ok (.aload_n 0, 1) := by decide +kernel
theorem dX6_fret_60 : decode cX6_fret 60 = .ok (.getfield 19, 3) := by decide +kernel
theorem dX6_fret_63 : decode cX6_fret 63 = .ok (.aload_n 0, 1) := by decide +kernel
theorem dX6_fret_64 : decode cX6_fret 64 = .ok (.getfield 10, 3) := by decide +kernel
theorem dX6_fret_67 : decode cX6_fret 67 = .ok (.invokevirtual 48, 3) := by decide +kernel
theorem dX6_fret_70 : decode cX6_fret 70 = .ok (.aload_n 0, 1) := by decide +kernel
theorem dX6_fret_71 : decode cX6_fret 71 = .ok (.getfield 10, 3) := by decide +kernel
theorem dX6_fret_74 : decode cX6_fret 74 = .ok (.iload_n 1, 1) := by decide +kernel
theorem dX6_fret_75 : decode cX6_fret 75 = .ok (.iload_n 2, 1) := by decide +kernel
theorem dX6_fret_76 : decode cX6_fret 76 = .ok (.invokevirtual 52, 3) := by decide +kernel
theorem dX6_fret_79 : decode cX6_fret 79 = .ok (.ireturn, 1) := by decide +kernel
set_option maxRecDepth 20000 in
theorem ggX6_level_X1_has : GoodIn wsX6_level wsX1_has := goodIn_r _ [8, 9, 10, 11, 12, 124, 125, 126, 127] (by decide +kernel) (by decide +kernel)
set_option maxRecDepth 20000 in
theorem gX6_level_X1_has : GoodIn wsX6_level (wsV RX6 56 RX1 yX1_has wsX1_has) := goodIn_app (goodIn_of _ (by decide +kernel)) ggX6_level_X1_has
set_option maxRecDepth 20000 in
theorem ggX6_level_X6_isWithin : GoodIn wsX6_level wsX6_isWithin := goodIn_r _ [12] (by decide +kernel) (by decide +kernel)
set_option maxRecDepth 20000 in
theorem gX6_level_X6_isWithin : GoodIn wsX6_level (va_wsS RX6 30 yX6_isWithin wsX6_isWithin) := goodIn_app (goodIn_of _ (by decide +kernel)) ggX6_level_X6_isWithin
set_option maxRecDepth 20000 in
theorem ggX6_level_X1_heightOf : GoodIn wsX6_level wsX1_heightOf := goodIn_r _ [17, 18, 19, 5, 6, 7, 8, 9, 10, 11, 12, 124, 125, 126, 127] (by decide +kernel) (by decide +kernel)
set_option maxRecDepth 20000 in
theorem gX6_level_X1_heightOf : GoodIn wsX6_level (wsV RX6 59 RX1 yX1_heightOf wsX1_heightOf) := goodIn_app (goodIn_of _ (by decide +kernel)) ggX6_level_X1_heightOf
set_option maxRecDepth 20000 in
theorem ggX6_level_X0_keep : GoodIn wsX6_level wsX0_keep := goodIn_r _ [24, 25, 26, 27, 28, 29, 23, 30, 31, 32, 33, 34, 35, 36, 37, 38, 39, 40, 41, 42, 43, 44, 45, 46, 47, 48, 49, 7, 50, 9, 51, 52, 18, 53, 54, 55, 56, 57, 58, 59, 60, 61, 62, 63, 64, 65, 66, 67, 68, 69, 70, 71, 72, 73, 74, 75, 128, 129, 130, 118, 119, 120, 121, 122, 123, 124, 125, 126, 127, 131, 132, 133, 134, 135, 136, 137, 138, 139, 140] (by decide +kernel) (by decide +kernel)
set_option maxRecDepth 20000 in
theorem gX6_level_X0_keep : GoodIn wsX6_level (wsV RX6 48 RX0 yX0_keep wsX0_keep) := goodIn_app (goodIn_of _ (by decide +kernel)) ggX6_level_X0_keep
set_option maxRecDepth 20000 in
theorem ggX6_level_X1_file : GoodIn wsX6_level wsX1_file := goodIn_r _ [79, 18, 53, 19, 5, 6, 7, 8, 9, 10, 11, 12, 124, 125, 126, 127] (by decide +kernel) (by decide +kernel)
set_option maxRecDepth 20000 in
theorem gX6_level_X1_file : GoodIn wsX6_level (wsV RX6 63 RX1 yX1_file wsX1_file) := goodIn_app (goodIn_of _ (by decide +kernel)) ggX6_level_X1_file
set_option maxRecDepth 20000 in
theorem ggX6_level_X4_settle : GoodIn wsX6_level wsX4_settle := goodIn_r _ [83, 37, 38, 84, 85, 86, 87, 7, 88, 9, 19, 5, 6, 8, 10, 11, 12, 89, 15, 16, 17, 18, 90, 91, 92, 93, 51, 94, 95, 96, 97, 98, 99, 100, 101, 102, 103, 104, 105, 57, 106, 65, 64, 107, 108, 109, 110, 111, 112, 113, 114, 66, 118, 119, 120, 121, 122, 123, 131, 132, 133, 134, 135, 136, 137, 124, 125, 126, 127] (by decide +kernel) (by decide +kernel)
set_option maxRecDepth 20000 in
theorem gX6_level_X4_settle : GoodIn wsX6_level (wsV RX6 67 RX4 yX4_settle wsX4_settle) := goodIn_app (goodIn_of _ (by decide +kernel)) ggX6_level_X4_settle
theorem dX6_level_0 : decode cX6_level 0 = .ok (.aload_n 0, 1) := by decide +kernel
theorem dX6_level_1 : decode cX6_level 1 = .ok (.getfield 10, 3) := by decide +kernel
theorem dX6_level_4 : decode cX6_level 4 = .ok (.getfield 34, 3) := by decide +kernel
theorem dX6_level_7 : decode cX6_level 7 = .ok (.iload_n 1, 1) := by decide +kernel
theorem dX6_level_8 : decode cX6_level 8 = .ok (.invokevirtual 56, 3) := by decide +kernel
theorem dX6_level_11 : decode cX6_level 11 = .ok (.ifCond .eq 14, 3) := by decide +kernel
theorem dX6_level_14 : decode cX6_level 14 = .ok (.iload_n 2, 1) := by decide +kernel
theorem dX6_level_15 : decode cX6_level 15 = .ok (.iconst 0, 1) := by decide +kernel
theorem dX6_level_16 : decode cX6_level 16 = .ok (.sipush 2000, 3) := by decide +kernel
theorem dX6_level_19 : decode cX6_level 19 = .ok (.invokestatic 30, 3) := by decide +kernel
theorem dX6_level_22 : decode cX6_level 22 = .ok (.ifCond .ne 5, 3) := by decide +kernel
theorem dX6_level_25 : decode cX6_level 25 = .ok (.iconst (-1), 1) := by decide +kernel
theorem dX6_level_26 : decode cX6_level 26 = .ok (.ireturn, 1) := by decide +kernel
theorem dX6_level_27 : decode cX6_level 27 = .ok (.aload_n 0, 1) := by decide +kernel
theorem dX6_level_28 : decode cX6_level 28 = .ok (.getfield 10, 3) := by decide +kernel
theorem dX6_level_31 : decode cX6_level 31 = .ok (.getfield 34, 3) := by decide +kernel
theorem dX6_level_34 : decode cX6_level 34 = .ok (.iload_n 1, 1) := by decide +kernel
theorem dX6_level_35 : decode cX6_level 35 = .ok (.invokevirtual 59, 3) := by decide +kernel
theorem dX6_level_38 : decode cX6_level 38 = .ok (.iload_n 2, 1) := by decide +kernel
theorem dX6_level_39 : decode cX6_level 39 = .ok (.isub, 1) := by decide +kernel
theorem dX6_level_40 : decode cX6_level 40 = .ok (.istore_n 3, 1) := by decide +kernel
theorem dX6_level_41 : decode cX6_level 41 = .ok (.iload_n 3, 1) := by decide +kernel
theorem dX6_level_42 : decode cX6_level 42 = .ok (.ifCond .ge 6, 3) := by decide +kernel
theorem dX6_level_45 : decode cX6_level 45 = .ok (.bipush (-2), 2) := by decide +kernel
theorem dX6_level_47 : decode cX6_level 47 = .ok (.ireturn, 1) := by decide +kernel
theorem dX6_level_48 : decode cX6_level 48 = .ok (.aload_n 0, 1) := by decide +kernel
theorem dX6_level_49 : decode cX6_level 49 = .ok (.getfield 19, 3) := by decide +kernel
theorem dX6_level_52 : decode cX6_level 52 = .ok (.aload_n 0, 1) := by decide +kernel
theorem dX6_level_53 : decode cX6_level 53 = .ok (.getfield 10, 3) := by decide +kernel
theorem dX6_level_56 : decode cX6_level 56 = .ok (.invokevirtual 48, 3) := by decide +kernel
theorem dX6_level_59 : decode cX6_level 59 = .ok (.aload_n 0, 1) := by decide +kernel
theorem dX6_level_60 : decode cX6_level 60 = .ok (.getfield 10, 3) := by decide +kernel
theorem dX6_level_63 : decode cX6_level 63 = .ok (.getfield 34, 3) := by decide +kernel
theorem dX6_level_66 : decode cX6_level 66 = .ok (.iload_n 1, 1) := by decide +kernel
theorem dX6_level_67 : decode cX6_level 67 = .ok (.iload_n 2, 1) := by decide +kernel
theorem dX6_level_68 : decode cX6_level 68 = .ok (.invokevirtual 63, 3) := by decide +kernel
theorem dX6_level_71 : decode cX6_level 71 = .ok (.aload_n 0, 1) := by decide +kernel
theorem dX6_level_72 : decode cX6_level 72 = .ok (.getfield 10, 3) := by decide +kernel
theorem dX6_level_75 : decode cX6_level 75 = .ok (.invokevirtual 67, 3) := by decide +kernel
theorem dX6_level_78 : decode cX6_level 78 = .ok (.iload_n 3, 1) := by decide +kernel
theorem dX6_level_79 : decode cX6_level 79 = .ok (.ireturn, 1) := by decide +kernel
set_option maxRecDepth 20000 in
theorem ggX6_fretInfo_X1_has : GoodIn wsX6_fretInfo wsX1_has := goodIn_r _ [8, 9, 10, 11, 12, 66, 67, 68, 69] (by decide +kernel) (by decide +kernel)
set_option maxRecDepth 20000 in
theorem gX6_fretInfo_X1_has : GoodIn wsX6_fretInfo (wsV RX6 56 RX1 yX1_has wsX1_has) := goodIn_app (goodIn_of _ (by decide +kernel)) ggX6_fretInfo_X1_has
set_option maxRecDepth 20000 in
theorem ggX6_fretInfo_X1_positionOf : GoodIn wsX6_fretInfo wsX1_positionOf := goodIn_r _ [16, 17, 18, 5, 6, 7, 8, 9, 10, 11, 12, 66, 67, 68, 69] (by decide +kernel) (by decide +kernel)
set_option maxRecDepth 20000 in
theorem gX6_fretInfo_X1_positionOf : GoodIn wsX6_fretInfo (wsV RX6 70 RX1 yX1_positionOf wsX1_positionOf) := goodIn_app (goodIn_of _ (by decide +kernel)) ggX6_fretInfo_X1_positionOf
set_option maxRecDepth 20000 in
theorem ggX6_fretInfo_X1_heightOf : GoodIn wsX6_fretInfo wsX1_heightOf := goodIn_r _ [22, 23, 18, 5, 6, 7, 8, 9, 10, 11, 12, 66, 67, 68, 69] (by decide +kernel) (by decide +kernel)
set_option maxRecDepth 20000 in
theorem gX6_fretInfo_X1_heightOf : GoodIn wsX6_fretInfo (wsV RX6 59 RX1 yX1_heightOf wsX1_heightOf) := goodIn_app (goodIn_of _ (by decide +kernel)) ggX6_fretInfo_X1_heightOf
set_option maxRecDepth 20000 in
theorem ggX6_fretInfo_X1_wearOf : GoodIn wsX6_fretInfo wsX1_wearOf := goodIn_r _ [27, 28, 18, 5, 6, 7, 8, 9, 10, 11, 12, 66, 67, 68, 69] (by decide +kernel) (by decide +kernel)
set_option maxRecDepth 20000 in
theorem gX6_fretInfo_X1_wearOf : GoodIn wsX6_fretInfo (wsV RX6 73 RX1 yX1_wearOf wsX1_wearOf) := goodIn_app (goodIn_of _ (by decide +kernel)) ggX6_fretInfo_X1_wearOf
set_option maxRecDepth 20000 in
theorem ggX6_fretInfo_X5_maskPressedAt : GoodIn wsX6_fretInfo wsX5_maskPressedAt := goodIn_r _ [33, 34, 35, 36, 32, 37, 70, 71, 72, 73, 74, 75, 76] (by decide +kernel) (by decide +kernel)
set_option maxRecDepth 20000 in
theorem gX6_fretInfo_X5_maskPressedAt : GoodIn wsX6_fretInfo (wsV RX6 80 RX5 yX5_maskPressedAt wsX5_maskPressedAt) := goodIn_app (goodIn_of _ (by decide +kernel)) ggX6_fretInfo_X5_maskPressedAt
set_option maxRecDepth 20000 in
theorem ggX6_fretInfo_X5_maskSoundingFrom : GoodIn wsX6_fretInfo wsX5_maskSoundingFrom := goodIn_r _ [41, 42, 35, 36, 32, 37, 70, 71, 72, 73, 74, 75, 76] (by decide +kernel) (by decide +kernel)
set_option maxRecDepth 20000 in
theorem gX6_fretInfo_X5_maskSoundingFrom : GoodIn wsX6_fretInfo (wsV RX6 85 RX5 yX5_maskSoundingFrom wsX5_maskSoundingFrom) := goodIn_app (goodIn_of _ (by decide +kernel)) ggX6_fretInfo_X5_maskSoundingFrom
set_option maxRecDepth 20000 in
theorem ggX6_fretInfo_X1_sourceFor : GoodIn wsX6_fretInfo wsX1_sourceFor := goodIn_r _ [46, 9, 18, 5, 6, 7, 8, 10, 11, 12, 47, 20, 21, 22, 23, 48, 14, 15, 16, 17, 49, 50, 51, 52, 53, 54, 55, 56, 66, 67, 68, 69] (by decide +kernel) (by decide +kernel)
set_option maxRecDepth 20000 in
theorem gX6_fretInfo_X1_sourceFor : GoodIn wsX6_fretInfo (wsV RX6 88 RX1 yX1_sourceFor wsX1_sourceFor) := goodIn_app (goodIn_of _ (by decide +kernel)) ggX6_fretInfo_X1_sourceFor
theorem dX6_fretInfo_0 : decode cX6_fretInfo 0 = .ok (.aload_n 0, 1) := by decide +kernel
theorem dX6_fretInfo_1 : decode cX6_fretInfo 1 = .ok (.getfield 10, 3) := by decide +kernel
theorem dX6_fretInfo_4 : decode cX6_fretInfo 4 = .ok (.getfield 34, 3) := by decide +kernel
theorem dX6_fretInfo_7 : decode cX6_fretInfo 7 = .ok (.iload_n 1, 1) := by decide +kernel
theorem dX6_fretInfo_8 : decode cX6_fretInfo 8 = .ok (.invokevirtual 56, 3) := by decide +kernel
theorem dX6_fretInfo_11 : decode cX6_fretInfo 11 = .ok (.ifCond .ne 5, 3) := by decide +kernel
theorem dX6_fretInfo_14 : decode cX6_fretInfo 14 = .ok (.iconst (-1), 1) := by decide +kernel
theorem dX6_fretInfo_15 : decode cX6_fretInfo 15 = .ok (.ireturn, 1) := by decide +kernel
theorem dX6_fretInfo_16 : decode cX6_fretInfo 16 = .ok (.iload_n 2, 1) := by decide +kernel
theorem dX6_fretInfo_17 : decode cX6_fretInfo 17 = .ok (.tableswitch 111 0 5 #[39, 51, 63, 75, 87, 99], 39) := by decide +kernel
theorem dX6_fretInfo_56 : decode cX6_fretInfo 56 = .ok (.aload_n 0, 1) := by decide +kernel
theorem dX6_fretInfo_57 : decode cX6_fretInfo 57 = .ok (.getfield 10, 3) := by decide +kernel
theorem dX6_fretInfo_60 : decode cX6_fretInfo 60 = .ok (.getfield 34, 3) := by decide +kernel
theorem dX6_fretInfo_63 : decode cX6_fretInfo 63 = .ok (.iload_n 1, 1) := by decide +kernel
theorem dX6_fretInfo_64 : decode cX6_fretInfo 64 = .ok (.invokevirtual 70, 3) := by decide +kernel
theorem dX6_fretInfo_67 : decode cX6_fretInfo 67 = .ok (.ireturn, 1) := by decide +kernel
theorem dX6_fretInfo_68 : decode cX6_fretInfo 68 = .ok (.aload_n 0, 1) := by decide +kernel
theorem dX6_fretInfo_69 : decode cX6_fretInfo 69 = .ok (.getfield 10, 3) := by decide +kernel
theorem dX6_fretInfo_72 : decode cX6_fretInfo 72 = .ok (.getfield 34, 3) := by decide +kernel
theorem dX6_fretInfo_75 : decode cX6_fretInfo 75 = .ok (.iload_n 1, 1) := by decide +kernel
theorem dX6_fretInfo_76 : decode cX6_fretInfo 76 = .ok (.invokevirtual 59, 3) := by decide +kernel
theorem dX6_fretInfo_79 : decode cX6_fretInfo 79 = .ok (.ireturn, 1) := by decide +kernel
theorem dX6_fretInfo_80 : decode cX6_fretInfo 80 = .ok (.aload_n 0, 1) := by decide +kernel
theorem dX6_fretInfo_81 : decode cX6_fretInfo 81 = .ok (.getfield 10, 3) := by decide +kernel
theorem dX6_fretInfo_84 : decode cX6_fretInfo 84 = .ok (.getfield 34, 3) := by decide +kernel
theorem dX6_fretInfo_87 : decode cX6_fretInfo 87 = .ok (.iload_n 1, 1) := by decide +kernel
theorem dX6_fretInfo_88 : decode cX6_fretInfo 88 = .ok (.invokevirtual 73, 3) := by decide +kernel
theorem dX6_fretInfo_91 : decode cX6_fretInfo 91 = .ok (.ireturn, 1) := by decide +kernel
theorem dX6_fretInfo_92 : decode cX6_fretInfo 92 = .ok (.aload_n 0, 1) := by decide +kernel
theorem dX6_fretInfo_93 : decode cX6_fretInfo 93 = .ok (.getfield 10, 3) := by decide +kernel
theorem dX6_fretInfo_96 : decode cX6_fretInfo 96 = .ok (.getfield 76, 3) := by decide +kernel
theorem dX6_fretInfo_99 : decode cX6_fretInfo 99 = .ok (.iload_n 1, 1) := by decide +kernel
theorem dX6_fretInfo_100 : decode cX6_fretInfo 100 = .ok (.invokevirtual 80, 3) := by decide +kernel
theorem dX6_fretInfo_103 : decode cX6_fretInfo 103 = .ok (.ireturn, 1) := by decide +kernel
theorem dX6_fretInfo_104 : decode cX6_fretInfo 104 = .ok (.aload_n 0, 1) := by decide +kernel
theorem dX6_fretInfo_105 : decode cX6_fretInfo 105 = .ok (.getfield 10, 3) := by decide +kernel
theorem dX6_fretInfo_108 : decode cX6_fretInfo 108 = .ok (.getfield 76, 3) := by decide +kernel
theorem dX6_fretInfo_111 : decode cX6_fretInfo 111 = .ok (.iload_n 1, 1) := by decide +kernel
theorem dX6_fretInfo_112 : decode cX6_fretInfo 112 = .ok (.invokevirtual 85, 3) := by decide +kernel
theorem dX6_fretInfo_115 : decode cX6_fretInfo 115 = .ok (.ireturn, 1) := by decide +kernel
theorem dX6_fretInfo_116 : decode cX6_fretInfo 116 = .ok (.aload_n 0, 1) := by decide +kernel
theorem dX6_fretInfo_117 : decode cX6_fretInfo 117 = .ok (.getfield 10, 3) := by decide +kernel
theorem dX6_fretInfo_120 : decode cX6_fretInfo 120 = .ok (.getfield 34, 3) := by decide +kernel
theorem dX6_fretInfo_123 : decode cX6_fretInfo 123 = .ok (.iload_n 1, 1) := by decide +kernel
theorem dX6_fretInfo_124 : decode cX6_fretInfo 124 = .ok (.invokevirtual 88, 3) := by decide +kernel
theorem dX6_fretInfo_127 : decode cX6_fretInfo 127 = .ok (.ireturn, 1) := by decide +kernel
theorem dX6_fretInfo_128 : decode cX6_fretInfo 128 = .ok (.iconst (-1), 1) := by decide +kernel
theorem dX6_fretInfo_129 : decode cX6_fretInfo 129 = .ok (.ireturn, 1) := by decide +kernel
set_option maxRecDepth 20000 in
theorem ggX6_mostFor_X1_has : GoodIn wsX6_mostFor wsX1_has := goodIn_r _ [7, 8, 9, 10, 11, 51, 52, 53, 54] (by decide +kernel) (by decide +kernel)
set_option maxRecDepth 20000 in
theorem gX6_mostFor_X1_has : GoodIn wsX6_mostFor (wsV RX6 56 RX1 yX1_has wsX1_has) := goodIn_app (goodIn_of _ (by decide +kernel)) ggX6_mostFor_X1_has
set_option maxRecDepth 20000 in
theorem ggX6_mostFor_X1_mostHeightFor : GoodIn wsX6_mostFor wsX1_mostHeightFor := goodIn_r _ [15, 16, 17, 18, 19, 20, 21, 22, 23, 24, 25, 6, 26, 27, 28, 4, 5, 7, 8, 9, 10, 11, 29, 30, 31, 32, 33, 34, 35, 36, 37, 38, 39, 40, 41, 51, 52, 53, 54] (by decide +kernel) (by decide +kernel)
set_option maxRecDepth 20000 in
theorem gX6_mostFor_X1_mostHeightFor : GoodIn wsX6_mostFor (wsV RX6 91 RX1 yX1_mostHeightFor wsX1_mostHeightFor) := goodIn_app (goodIn_of _ (by decide +kernel)) ggX6_mostFor_X1_mostHeightFor
theorem dX6_mostFor_0 : decode cX6_mostFor 0 = .ok (.aload_n 0, 1) := by decide +kernel
theorem dX6_mostFor_1 : decode cX6_mostFor 1 = .ok (.getfield 10, 3) := by decide +kernel
theorem dX6_mostFor_4 : decode cX6_mostFor 4 = .ok (.getfield 34, 3) := by decide +kernel
theorem dX6_mostFor_7 : decode cX6_mostFor 7 = .ok (.iload_n 1, 1) := by decide +kernel
theorem dX6_mostFor_8 : decode cX6_mostFor 8 = .ok (.invokevirtual 56, 3) := by decide +kernel
theorem dX6_mostFor_11 : decode cX6_mostFor 11 = .ok (.ifCond .eq 17, 3) := by decide +kernel
theorem dX6_mostFor_14 : decode cX6_mostFor 14 = .ok (.aload_n 0, 1) := by decide +kernel
theorem dX6_mostFor_15 : decode cX6_mostFor 15 = .ok (.getfield 10, 3) := by decide +kernel
theorem dX6_mostFor_18 : decode cX6_mostFor 18 = .ok (.getfield 34, 3) := by decide +kernel
theorem dX6_mostFor_21 : decode cX6_mostFor 21 = .ok (.iload_n 1, 1) := by decide +kernel
theorem dX6_mostFor_22 : decode cX6_mostFor 22 = .ok (.invokevirtual 91, 3) := by decide +kernel
theorem dX6_mostFor_25 : decode cX6_mostFor 25 = .ok (.goto 4, 3) := by decide +kernel
theorem dX6_mostFor_28 : decode cX6_mostFor 28 = .ok (.iconst (-1), 1) := by decide +kernel
theorem dX6_mostFor_29 : decode cX6_mostFor 29 = .ok (.ireturn, 1) := by decide +kernel
set_option maxRecDepth 20000 in
theorem ggX6_tune_X6_isString : GoodIn wsX6_tune wsX6_isString := goodIn_r _ [9, 10, 11, 8, 12] (by decide +kernel) (by decide +kernel)
set_option maxRecDepth 20000 in
theorem gX6_tune_X6_isString : GoodIn wsX6_tune (va_wsS RX6 94 yX6_isString wsX6_isString) := goodIn_app (goodIn_of _ (by decide +kernel)) ggX6_tune_X6_isString
set_option maxRecDepth 20000 in
theorem ggX6_tune_X6_isWithin : GoodIn wsX6_tune wsX6_isWithin := goodIn_r _ [12] (by decide +kernel) (by decide +kernel)
set_option maxRecDepth 20000 in
theorem gX6_tune_X6_isWithin : GoodIn wsX6_tune (va_wsS RX6 30 yX6_isWithin wsX6_isWithin) := goodIn_app (goodIn_of _ (by decide +kernel)) ggX6_tune_X6_isWithin
set_option maxRecDepth 20000 in
theorem ggX6_tune_X0_keep : GoodIn wsX6_tune wsX0_keep := goodIn_r _ [17, 18, 19, 20, 21, 22, 16, 23, 24, 25, 26, 27, 28, 29, 30, 31, 32, 33, 34, 35, 36, 37, 38, 39, 40, 41, 42, 43, 44, 45, 46, 47, 48, 49, 50, 51, 52, 53, 54, 55, 56, 57, 58, 59, 60, 61, 62, 63, 64, 65, 66, 67, 68, 69, 70, 71, 88, 89, 90, 75, 76, 77, 78, 79, 80, 91, 92, 93, 94, 81, 82, 83, 84, 85, 86, 87, 95, 96, 97] (by decide +kernel) (by decide +kernel)
set_option maxRecDepth 20000 in
theorem gX6_tune_X0_keep : GoodIn wsX6_tune (wsV RX6 48 RX0 yX0_keep wsX0_keep) := goodIn_app (goodIn_of _ (by decide +kernel)) ggX6_tune_X0_keep
theorem dX6_tune_0 : decode cX6_tune 0 = .ok (.iload_n 1, 1) := by decide +kernel
theorem dX6_tune_1 : decode cX6_tune 1 = .ok (.invokestatic 94, 3) := by decide +kernel
theorem dX6_tune_4 : decode cX6_tune 4 = .ok (.ifCond .eq 15, 3) := by decide +kernel
theorem dX6_tune_7 : decode cX6_tune 7 = .ok (.iload_n 2, 1) := by decide +kernel
theorem dX6_tune_8 : decode cX6_tune 8 = .ok (.sipush 1000, 3) := by decide +kernel
theorem dX6_tune_11 : decode cX6_tune 11 = .ok (.ldc 97, 2) := by decide +kernel
theorem dX6_tune_13 : decode cX6_tune 13 = .ok (.invokestatic 30, 3) := by decide +kernel
theorem dX6_tune_16 : decode cX6_tune 16 = .ok (.ifCond .ne 5, 3) := by decide +kernel
theorem dX6_tune_19 : decode cX6_tune 19 = .ok (.iconst (-1), 1) := by decide +kernel
theorem dX6_tune_20 : decode cX6_tune 20 = .ok (.ireturn, 1) := by decide +kernel
theorem dX6_tune_21 : decode cX6_tune 21 = .ok (.aload_n 0, 1) := by decide +kernel
theorem dX6_tune_22 : decode cX6_tune 22 = .ok (.getfield 19, 3) := by decide +kernel
theorem dX6_tune_25 : decode cX6_tune 25 = .ok (.aload_n 0, 1) := by decide +kernel
theorem dX6_tune_26 : decode cX6_tune 26 = .ok (.getfield 10, 3) := by decide +kernel
theorem dX6_tune_29 : decode cX6_tune 29 = .ok (.invokevirtual 48, 3) := by decide +kernel
theorem dX6_tune_32 : decode cX6_tune 32 = .ok (.aload_n 0, 1) := by decide +kernel
theorem dX6_tune_33 : decode cX6_tune 33 = .ok (.getfield 10, 3) := by decide +kernel
theorem dX6_tune_36 : decode cX6_tune 36 = .ok (.getfield 76, 3) := by decide +kernel
theorem dX6_tune_39 : decode cX6_tune 39 = .ok (.getfield 98, 3) := by decide +kernel
theorem dX6_tune_42 : decode cX6_tune 42 = .ok (.iload_n 1, 1) := by decide +kernel
theorem dX6_tune_43 : decode cX6_tune 43 = .ok (.iaload, 1) := by decide +kernel
theorem dX6_tune_44 : decode cX6_tune 44 = .ok (.istore_n 3, 1) := by decide +kernel
theorem dX6_tune_45 : decode cX6_tune 45 = .ok (.aload_n 0, 1) := by decide +kernel
theorem dX6_tune_46 : decode cX6_tune 46 = .ok (.getfield 10, 3) := by decide +kernel
theorem dX6_tune_49 : decode cX6_tune 49 = .ok (.getfield 76, 3) := by decide +kernel
theorem dX6_tune_52 : decode cX6_tune 52 = .ok (.getfield 98, 3) := by decide +kernel
theorem dX6_tune_55 : decode cX6_tune 55 = .ok (.iload_n 1, 1) := by decide +kernel
theorem dX6_tune_56 : decode cX6_tune 56 = .ok (.iload_n 2, 1) := by decide +kernel
theorem dX6_tune_57 : decode cX6_tune 57 = .ok (.iastore, 1) := by decide +kernel
theorem dX6_tune_58 : decode cX6_tune 58 = .ok (.iload_n 3, 1) := by decide +kernel
theorem dX6_tune_59 : decode cX6_tune 59 = .ok (.ireturn, 1) := by decide +kernel
set_option maxRecDepth 20000 in
theorem ggX6_press_X6_isString : GoodIn wsX6_press wsX6_isString := goodIn_r _ [8, 9, 10, 7, 11] (by decide +kernel) (by decide +kernel)
set_option maxRecDepth 20000 in
theorem gX6_press_X6_isString : GoodIn wsX6_press (va_wsS RX6 94 yX6_isString wsX6_isString) := goodIn_app (goodIn_of _ (by decide +kernel)) ggX6_press_X6_isString
set_option maxRecDepth 20000 in
theorem ggX6_press_X1_isNumberOrOpen : GoodIn wsX6_press wsX1_isNumberOrOpen := goodIn_r _ [16, 17, 10, 7, 11, 134, 135, 136, 137] (by decide +kernel) (by decide +kernel)
set_option maxRecDepth 20000 in
theorem gX6_press_X1_isNumberOrOpen : GoodIn wsX6_press (wsV RX6 102 RX1 yX1_isNumberOrOpen wsX1_isNumberOrOpen) := goodIn_app (goodIn_of _ (by decide +kernel)) ggX6_press_X1_isNumberOrOpen
set_option maxRecDepth 20000 in
theorem ggX6_press_X0_keep : GoodIn wsX6_press wsX0_keep := goodIn_r _ [22, 23, 24, 25, 26, 27, 21, 28, 29, 30, 31, 32, 33, 34, 35, 36, 37, 38, 39, 40, 41, 42, 43, 44, 45, 46, 47, 15, 48, 17, 49, 50, 51, 52, 53, 54, 55, 56, 57, 58, 59, 60, 61, 62, 63, 64, 65, 66, 67, 68, 69, 70, 71, 72, 73, 74, 138, 139, 140, 128, 129, 130, 131, 132, 133, 134, 135, 136, 137, 141, 142, 143, 144, 145, 146, 147, 148, 149, 150] (by decide +kernel) (by decide +kernel)
set_option maxRecDepth 20000 in
theorem gX6_press_X0_keep : GoodIn wsX6_press (wsV RX6 48 RX0 yX0_keep wsX0_keep) := goodIn_app (goodIn_of _ (by decide +kernel)) ggX6_press_X0_keep
set_option maxRecDepth 20000 in
theorem ggX6_press_X4_pressAt : GoodIn wsX6_press wsX4_pressAt := goodIn_r _ [78, 36, 79, 80, 81, 82, 33, 83, 35, 84, 85, 86, 15, 87, 17, 88, 89, 90, 91, 10, 7, 11, 92, 93, 94, 95, 51, 96, 97, 98, 99, 49, 100, 101, 102, 103, 104, 105, 106, 107, 108, 109, 110, 111, 56, 112, 64, 63, 113, 114, 115, 116, 117, 118, 119, 120, 65, 128, 129, 130, 131, 132, 133, 141, 142, 143, 144, 145, 146, 147, 134, 135, 136, 137] (by decide +kernel) (by decide +kernel)
set_option maxRecDepth 20000 in
theorem gX6_press_X4_pressAt : GoodIn wsX6_press (wsV RX6 105 RX4 yX4_pressAt wsX4_pressAt) := goodIn_app (goodIn_of _ (by decide +kernel)) ggX6_press_X4_pressAt
set_option maxRecDepth 20000 in
theorem ggX6_press_X5_soundingLength : GoodIn wsX6_press wsX5_soundingLength := goodIn_r _ [124, 64, 141, 142, 143, 144, 145, 146, 147] (by decide +kernel) (by decide +kernel)
set_option maxRecDepth 20000 in
theorem gX6_press_X5_soundingLength : GoodIn wsX6_press (wsV RX6 108 RX5 yX5_soundingLength wsX5_soundingLength) := goodIn_app (goodIn_of _ (by decide +kernel)) ggX6_press_X5_soundingLength
theorem dX6_press_0 : decode cX6_press 0 = .ok (.iload_n 1, 1) := by decide +kernel
theorem dX6_press_1 : decode cX6_press 1 = .ok (.invokestatic 94, 3) := by decide +kernel
theorem dX6_press_4 : decode cX6_press 4 = .ok (.ifCond .eq 17, 3) := by decide +kernel
theorem dX6_press_7 : decode cX6_press 7 = .ok (.aload_n 0, 1) := by decide +kernel
theorem dX6_press_8 : decode cX6_press 8 = .ok (.getfield 10, 3) := by decide +kernel
theorem dX6_press_11 : decode cX6_press 11 = .ok (.getfield 34, 3) := by decide +kernel
theorem dX6_press_14 : decode cX6_press 14 = .ok (.iload_n 2, 1) := by decide +kernel
theorem dX6_press_15 : decode cX6_press 15 = .ok (.invokevirtual 102, 3) := by decide +kernel
theorem dX6_press_18 : decode cX6_press 18 = .ok (.ifCond .ne 5, 3) := by decide +kernel
theorem dX6_press_21 : decode cX6_press 21 = .ok (.iconst (-1), 1) := by decide +kernel
theorem dX6_press_22 : decode cX6_press 22 = .ok (.ireturn, 1) := by decide +kernel
theorem dX6_press_23 : decode cX6_press 23 = .ok (.aload_n 0, 1) := by decide +kernel
theorem dX6_press_24 : decode cX6_press 24 = .ok (.getfield 19, 3) := by decide +kernel
theorem dX6_press_27 : decode cX6_press 27 = .ok (.aload_n 0, 1) := by decide +kernel
theorem dX6_press_28 : decode cX6_press 28 = .ok (.getfield 10, 3) := by decide +kernel
theorem dX6_press_31 : decode cX6_press 31 = .ok (.invokevirtual 48, 3) := by decide +kernel
theorem dX6_press_34 : decode cX6_press 34 = .ok (.aload_n 0, 1) := by decide +kernel
theorem dX6_press_35 : decode cX6_press 35 = .ok (.getfield 10, 3) := by decide +kernel
theorem dX6_press_38 : decode cX6_press 38 = .ok (.iload_n 1, 1) := by decide +kernel
theorem dX6_press_39 : decode cX6_press 39 = .ok (.iload_n 2, 1) := by decide +kernel
theorem dX6_press_40 : decode cX6_press 40 = .ok (.invokevirtual 105, 3) := by decide +kernel
theorem dX6_press_43 : decode cX6_press 43 = .ok (.aload_n 0, 1) := by decide +kernel
theorem dX6_press_44 : decode cX6_press 44 = .ok (.getfield 10, 3) := by decide +kernel
theorem dX6_press_47 : decode cX6_press 47 = .ok (.getfield 76, 3) := by decide +kernel
theorem dX6_press_50 : decode cX6_press 50 = .ok (.iload_n 1, 1) := by decide +kernel
theorem dX6_press_51 : decode cX6_press 51 = .ok (.invokevirtual 108, 3) := by decide +kernel
theorem dX6_press_54 : decode cX6_press 54 = .ok (.ireturn, 1) := by decide +kernel
set_option maxRecDepth 20000 in
theorem ggX6_touch_X6_isString : GoodIn wsX6_touch wsX6_isString := goodIn_r _ [8, 9, 10, 7, 11] (by decide +kernel) (by decide +kernel)
set_option maxRecDepth 20000 in
theorem gX6_touch_X6_isString : GoodIn wsX6_touch (va_wsS RX6 94 yX6_isString wsX6_isString) := goodIn_app (goodIn_of _ (by decide +kernel)) ggX6_touch_X6_isString
set_option maxRecDepth 20000 in
theorem ggX6_touch_X6_isWithin : GoodIn wsX6_touch wsX6_isWithin := goodIn_r _ [11] (by decide +kernel) (by decide +kernel)
set_option maxRecDepth 20000 in
theorem gX6_touch_X6_isWithin : GoodIn wsX6_touch (va_wsS RX6 30 yX6_isWithin wsX6_isWithin) := goodIn_app (goodIn_of _ (by decide +kernel)) ggX6_touch_X6_isWithin
set_option maxRecDepth 20000 in
theorem ggX6_touch_X0_keep : GoodIn wsX6_touch wsX0_keep := goodIn_r _ [16, 17, 18, 19, 20, 21, 15, 22, 23, 24, 25, 26, 27, 28, 29, 30, 31, 32, 33, 34, 35, 36, 37, 38, 39, 40, 41, 42, 43, 44, 45, 46, 47, 48, 49, 50, 51, 52, 53, 54, 55, 56, 57, 58, 59, 60, 61, 62, 63, 64, 65, 66, 67, 68, 69, 70, 87, 88, 89, 74, 75, 76, 77, 78, 79, 90, 91, 92, 93, 80, 81, 82, 83, 84, 85, 86, 94, 95, 96] (by decide +kernel) (by decide +kernel)
set_option maxRecDepth 20000 in
theorem gX6_touch_X0_keep : GoodIn wsX6_touch (wsV RX6 48 RX0 yX0_keep wsX0_keep) := goodIn_app (goodIn_of _ (by decide +kernel)) ggX6_touch_X0_keep
theorem dX6_touch_0 : decode cX6_touch 0 = .ok (.iload_n 1, 1) := by decide +kernel
theorem dX6_touch_1 : decode cX6_touch 1 = .ok (.invokestatic 94, 3) := by decide +kernel
theorem dX6_touch_4 : decode cX6_touch 4 = .ok (.ifCond .eq 14, 3) := by decide +kernel
theorem dX6_touch_7 : decode cX6_touch 7 = .ok (.iload_n 2, 1) := by decide +kernel
theorem dX6_touch_8 : decode cX6_touch 8 = .ok (.iconst 0, 1) := by decide +kernel
theorem dX6_touch_9 : decode cX6_touch 9 = .ok (.sipush 2519, 3) := by decide +kernel
theorem dX6_touch_12 : decode cX6_touch 12 = .ok (.invokestatic 30, 3) := by decide +kernel
theorem dX6_touch_15 : decode cX6_touch 15 = .ok (.ifCond .ne 5, 3) := by decide +kernel
theorem dX6_touch_18 : decode cX6_touch 18 = .ok (.iconst (-1), 1) := by decide +kernel
theorem dX6_touch_19 : decode cX6_touch 19 = .ok (.ireturn, 1) := by decide +kernel
theorem dX6_touch_20 : decode cX6_touch 20 = .ok (.aload_n 0, 1) := by decide +kernel
theorem dX6_touch_21 : decode cX6_touch 21 = .ok (.getfield 19, 3) := by decide +kernel
theorem dX6_touch_24 : decode cX6_touch 24 = .ok (.aload_n 0, 1) := by decide +kernel
theorem dX6_touch_25 : decode cX6_touch 25 = .ok (.getfield 10, 3) := by decide +kernel
theorem dX6_touch_28 : decode cX6_touch 28 = .ok (.invokevirtual 48, 3) := by decide +kernel
theorem dX6_touch_31 : decode cX6_touch 31 = .ok (.aload_n 0, 1) := by decide +kernel
theorem dX6_touch_32 : decode cX6_touch 32 = .ok (.getfield 10, 3) := by decide +kernel
theorem dX6_touch_35 : decode cX6_touch 35 = .ok (.getfield 76, 3) := by decide +kernel
theorem dX6_touch_38 : decode cX6_touch 38 = .ok (.getfield 111, 3) := by decide +kernel
theorem dX6_touch_41 : decode cX6_touch 41 = .ok (.iload_n 1, 1) := by decide +kernel
theorem dX6_touch_42 : decode cX6_touch 42 = .ok (.iaload, 1) := by decide +kernel
theorem dX6_touch_43 : decode cX6_touch 43 = .ok (.istore_n 3, 1) := by decide +kernel
theorem dX6_touch_44 : decode cX6_touch 44 = .ok (.aload_n 0, 1) := by decide +kernel
theorem dX6_touch_45 : decode cX6_touch 45 = .ok (.getfield 10, 3) := by decide +kernel
theorem dX6_touch_48 : decode cX6_touch 48 = .ok (.getfield 76, 3) := by decide +kernel
theorem dX6_touch_51 : decode cX6_touch 51 = .ok (.getfield 111, 3) := by decide +kernel
theorem dX6_touch_54 : decode cX6_touch 54 = .ok (.iload_n 1, 1) := by decide +kernel
theorem dX6_touch_55 : decode cX6_touch 55 = .ok (.iload_n 2, 1) := by decide +kernel
theorem dX6_touch_56 : decode cX6_touch 56 = .ok (.iastore, 1) := by decide +kernel
theorem dX6_touch_57 : decode cX6_touch 57 = .ok (.iload_n 3, 1) := by decide +kernel
theorem dX6_touch_58 : decode cX6_touch 58 = .ok (.ireturn, 1) := by decide +kernel
set_option maxRecDepth 20000 in
theorem ggX6_pluck_X6_isString : GoodIn wsX6_pluck wsX6_isString := goodIn_r _ [8, 9, 10, 7, 11] (by decide +kernel) (by decide +kernel)
set_option maxRecDepth 20000 in
theorem gX6_pluck_X6_isString : GoodIn wsX6_pluck (va_wsS RX6 94 yX6_isString wsX6_isString) := goodIn_app (goodIn_of _ (by decide +kernel)) ggX6_pluck_X6_isString
set_option maxRecDepth 20000 in
theorem ggX6_pluck_X6_isPlace : GoodIn wsX6_pluck wsX6_isPlace := goodIn_r _ [14, 9, 10, 7, 11] (by decide +kernel) (by decide +kernel)
set_option maxRecDepth 20000 in
theorem gX6_pluck_X6_isPlace : GoodIn wsX6_pluck (va_wsS RX6 114 yX6_isPlace wsX6_isPlace) := goodIn_app (goodIn_of _ (by decide +kernel)) ggX6_pluck_X6_isPlace
set_option maxRecDepth 20000 in
theorem ggX6_pluck_X6_isWithin : GoodIn wsX6_pluck wsX6_isWithin := goodIn_r _ [11] (by decide +kernel) (by decide +kernel)
set_option maxRecDepth 20000 in
theorem gX6_pluck_X6_isWithin : GoodIn wsX6_pluck (va_wsS RX6 30 yX6_isWithin wsX6_isWithin) := goodIn_app (goodIn_of _ (by decide +kernel)) ggX6_pluck_X6_isWithin
set_option maxRecDepth 20000 in
theorem ggX6_pluck_X0_keep : GoodIn wsX6_pluck wsX0_keep := goodIn_r _ [19, 20, 21, 22, 23, 24, 18, 25, 26, 27, 28, 29, 30, 31, 32, 33, 34, 35, 36, 37, 38, 39, 40, 41, 42, 43, 44, 45, 46, 47, 48, 49, 50, 51, 52, 53, 54, 55, 56, 57, 58, 59, 60, 61, 62, 63, 64, 65, 66, 67, 68, 69, 70, 71, 72, 73, 194, 195, 196, 181, 182, 183, 184, 185, 186, 197, 198, 199, 200, 187, 188, 189, 190, 191, 192, 193, 201, 202, 203] (by decide +kernel) (by decide +kernel)
set_option maxRecDepth 20000 in
theorem gX6_pluck_X0_keep : GoodIn wsX6_pluck (wsV RX6 48 RX0 yX0_keep wsX0_keep) := goodIn_app (goodIn_of _ (by decide +kernel)) ggX6_pluck_X0_keep
set_option maxRecDepth 20000 in
theorem ggX6_pluck_X4_pluckAt : GoodIn wsX6_pluck wsX4_pluckAt := goodIn_r _ [77, 33, 78, 79, 80, 34, 41, 32, 35, 81, 82, 83, 55, 84, 85, 86, 87, 88, 89, 90, 91, 92, 93, 63, 94, 95, 96, 97, 98, 99, 100, 101, 102, 103, 104, 105, 64, 106, 107, 108, 109, 110, 111, 112, 68, 113, 73, 70, 71, 114, 115, 116, 45, 117, 51, 50, 118, 119, 120, 121, 122, 123, 124, 125, 47, 10, 7, 11, 126, 127, 128, 30, 129, 130, 131, 132, 133, 134, 135, 136, 137, 138, 139, 140, 141, 48, 142, 143, 144, 145, 146, 147, 148, 149, 150, 151, 152, 153, 62, 154, 155, 156, 157, 181, 182, 183, 184, 185, 186, 187, 188, 189, 190, 191, 192, 193, 201, 202, 203, 197, 198, 199, 200] (by decide +kernel) (by decide +kernel)
set_option maxRecDepth 20000 in
theorem gX6_pluck_X4_pluckAt : GoodIn wsX6_pluck (wsV RX6 120 RX4 yX4_pluckAt wsX4_pluckAt) := goodIn_app (goodIn_of _ (by decide +kernel)) ggX6_pluck_X4_pluckAt
set_option maxRecDepth 20000 in
theorem ggX6_pluck_X4_heardOf : GoodIn wsX6_pluck wsX4_heardOf := goodIn_r _ [161, 162, 163, 164, 30, 165, 33, 166, 103, 104, 55, 105, 64, 167, 168, 169, 170, 35, 171, 172, 173, 174, 175, 176, 177, 181, 182, 183, 184, 185, 186, 187, 188, 189, 190, 191, 192, 193] (by decide +kernel) (by decide +kernel)
set_option maxRecDepth 20000 in
theorem gX6_pluck_X4_heardOf : GoodIn wsX6_pluck (wsV RX6 124 RX4 yX4_heardOf wsX4_heardOf) := goodIn_app (goodIn_of _ (by decide +kernel)) ggX6_pluck_X4_heardOf
theorem dX6_pluck_0 : decode cX6_pluck 0 = .ok (.iload_n 1, 1) := by decide +kernel
theorem dX6_pluck_1 : decode cX6_pluck 1 = .ok (.invokestatic 94, 3) := by decide +kernel
theorem dX6_pluck_4 : decode cX6_pluck 4 = .ok (.ifCond .eq 21, 3) := by decide +kernel
theorem dX6_pluck_7 : decode cX6_pluck 7 = .ok (.iload_n 2, 1) := by decide +kernel
theorem dX6_pluck_8 : decode cX6_pluck 8 = .ok (.invokestatic 114, 3) := by decide +kernel
theorem dX6_pluck_11 : decode cX6_pluck 11 = .ok (.ifCond .eq 14, 3) := by decide +kernel
theorem dX6_pluck_14 : decode cX6_pluck 14 = .ok (.iload_n 3, 1) := by decide +kernel
theorem dX6_pluck_15 : decode cX6_pluck 15 = .ok (.iconst 1, 1) := by decide +kernel
theorem dX6_pluck_16 : decode cX6_pluck 16 = .ok (.sipush 1000, 3) := by decide +kernel
theorem dX6_pluck_19 : decode cX6_pluck 19 = .ok (.invokestatic 30, 3) := by decide +kernel
theorem dX6_pluck_22 : decode cX6_pluck 22 = .ok (.ifCond .ne 5, 3) := by decide +kernel
theorem dX6_pluck_25 : decode cX6_pluck 25 = .ok (.iconst (-1), 1) := by decide +kernel
theorem dX6_pluck_26 : decode cX6_pluck 26 = .ok (.ireturn, 1) := by decide +kernel
theorem dX6_pluck_27 : decode cX6_pluck 27 = .ok (.iload_n 2, 1) := by decide +kernel
theorem dX6_pluck_28 : decode cX6_pluck 28 = .ok (.aload_n 0, 1) := by decide +kernel
theorem dX6_pluck_29 : decode cX6_pluck 29 = .ok (.getfield 10, 3) := by decide +kernel
theorem dX6_pluck_32 : decode cX6_pluck 32 = .ok (.getfield 76, 3) := by decide +kernel
theorem dX6_pluck_35 : decode cX6_pluck 35 = .ok (.getfield 117, 3) := by decide +kernel
theorem dX6_pluck_38 : decode cX6_pluck 38 = .ok (.iload_n 1, 1) := by decide +kernel
theorem dX6_pluck_39 : decode cX6_pluck 39 = .ok (.iaload, 1) := by decide +kernel
theorem dX6_pluck_40 : decode cX6_pluck 40 = .ok (.if_icmp .gt 6, 3) := by decide +kernel
theorem dX6_pluck_43 : decode cX6_pluck 43 = .ok (.bipush (-2), 2) := by decide +kernel
theorem dX6_pluck_45 : decode cX6_pluck 45 = .ok (.ireturn, 1) := by decide +kernel
theorem dX6_pluck_46 : decode cX6_pluck 46 = .ok (.aload_n 0, 1) := by decide +kernel
theorem dX6_pluck_47 : decode cX6_pluck 47 = .ok (.getfield 19, 3) := by decide +kernel
theorem dX6_pluck_50 : decode cX6_pluck 50 = .ok (.aload_n 0, 1) := by decide +kernel
theorem dX6_pluck_51 : decode cX6_pluck 51 = .ok (.getfield 10, 3) := by decide +kernel
theorem dX6_pluck_54 : decode cX6_pluck 54 = .ok (.invokevirtual 48, 3) := by decide +kernel
theorem dX6_pluck_57 : decode cX6_pluck 57 = .ok (.aload_n 0, 1) := by decide +kernel
theorem dX6_pluck_58 : decode cX6_pluck 58 = .ok (.getfield 10, 3) := by decide +kernel
theorem dX6_pluck_61 : decode cX6_pluck 61 = .ok (.iload_n 1, 1) := by decide +kernel
theorem dX6_pluck_62 : decode cX6_pluck 62 = .ok (.iload_n 2, 1) := by decide +kernel
theorem dX6_pluck_63 : decode cX6_pluck 63 = .ok (.iload_n 3, 1) := by decide +kernel
theorem dX6_pluck_64 : decode cX6_pluck 64 = .ok (.invokevirtual 120, 3) := by decide +kernel
theorem dX6_pluck_67 : decode cX6_pluck 67 = .ok (.aload_n 0, 1) := by decide +kernel
theorem dX6_pluck_68 : decode cX6_pluck 68 = .ok (.getfield 10, 3) := by decide +kernel
theorem dX6_pluck_71 : decode cX6_pluck 71 = .ok (.iload_n 1, 1) := by decide +kernel
theorem dX6_pluck_72 : decode cX6_pluck 72 = .ok (.invokevirtual 124, 3) := by decide +kernel
theorem dX6_pluck_75 : decode cX6_pluck 75 = .ok (.ireturn, 1) := by decide +kernel
set_option maxRecDepth 20000 in
theorem ggX6_damp_X6_isString : GoodIn wsX6_damp wsX6_isString := goodIn_r _ [7, 8, 9, 6, 10] (by decide +kernel) (by decide +kernel)
set_option maxRecDepth 20000 in
theorem gX6_damp_X6_isString : GoodIn wsX6_damp (va_wsS RX6 94 yX6_isString wsX6_isString) := goodIn_app (goodIn_of _ (by decide +kernel)) ggX6_damp_X6_isString
set_option maxRecDepth 20000 in
theorem ggX6_damp_X0_keep : GoodIn wsX6_damp wsX0_keep := goodIn_r _ [15, 16, 17, 18, 19, 20, 14, 21, 22, 23, 24, 25, 26, 27, 28, 29, 30, 31, 32, 33, 34, 35, 36, 37, 38, 39, 40, 41, 42, 43, 44, 45, 46, 47, 48, 49, 50, 51, 52, 53, 54, 55, 56, 57, 58, 59, 60, 61, 62, 63, 64, 65, 66, 67, 68, 69, 110, 111, 112, 104, 105, 106, 107, 108, 109, 113, 114, 115, 116, 117, 118, 119, 120, 121, 122, 123, 124, 125, 126] (by decide +kernel) (by decide +kernel)
set_option maxRecDepth 20000 in
theorem gX6_damp_X0_keep : GoodIn wsX6_damp (wsV RX6 48 RX0 yX0_keep wsX0_keep) := goodIn_app (goodIn_of _ (by decide +kernel)) ggX6_damp_X0_keep
set_option maxRecDepth 20000 in
theorem ggX6_damp_X4_heardOf : GoodIn wsX6_damp wsX4_heardOf := goodIn_r _ [73, 74, 75, 76, 26, 77, 29, 78, 79, 80, 51, 81, 60, 82, 83, 84, 85, 31, 86, 87, 88, 89, 90, 91, 92, 104, 105, 106, 107, 108, 109, 117, 118, 119, 120, 121, 122, 123] (by decide +kernel) (by decide +kernel)
set_option maxRecDepth 20000 in
theorem gX6_damp_X4_heardOf : GoodIn wsX6_damp (wsV RX6 124 RX4 yX4_heardOf wsX4_heardOf) := goodIn_app (goodIn_of _ (by decide +kernel)) ggX6_damp_X4_heardOf
set_option maxRecDepth 20000 in
theorem ggX6_damp_X5_quieten : GoodIn wsX6_damp wsX5_quieten := goodIn_r _ [96, 97, 98, 99, 51, 100, 60, 117, 118, 119, 120, 121, 122, 123] (by decide +kernel) (by decide +kernel)
set_option maxRecDepth 20000 in
theorem gX6_damp_X5_quieten : GoodIn wsX6_damp (wsV RX6 127 RX5 yX5_quieten wsX5_quieten) := goodIn_app (goodIn_of _ (by decide +kernel)) ggX6_damp_X5_quieten
theorem dX6_damp_0 : decode cX6_damp 0 = .ok (.iload_n 1, 1) := by decide +kernel
theorem dX6_damp_1 : decode cX6_damp 1 = .ok (.invokestatic 94, 3) := by decide +kernel
theorem dX6_damp_4 : decode cX6_damp 4 = .ok (.ifCond .ne 5, 3) := by decide +kernel
theorem dX6_damp_7 : decode cX6_damp 7 = .ok (.iconst (-1), 1) := by decide +kernel
theorem dX6_damp_8 : decode cX6_damp 8 = .ok (.ireturn, 1) := by decide +kernel
theorem dX6_damp_9 : decode cX6_damp 9 = .ok (.aload_n 0, 1) := by decide +kernel
theorem dX6_damp_10 : decode cX6_damp 10 = .ok (.getfield 19, 3) := by decide +kernel
theorem dX6_damp_13 : decode cX6_damp 13 = .ok (.aload_n 0, 1) := by decide +kernel
theorem dX6_damp_14 : decode cX6_damp 14 = .ok (.getfield 10, 3) := by decide +kernel
theorem dX6_damp_17 : decode cX6_damp 17 = .ok (.invokevirtual 48, 3) := by decide +kernel
theorem dX6_damp_20 : decode cX6_damp 20 = .ok (.aload_n 0, 1) := by decide +kernel
theorem dX6_damp_21 : decode cX6_damp 21 = .ok (.getfield 10, 3) := by decide +kernel
theorem dX6_damp_24 : decode cX6_damp 24 = .ok (.iload_n 1, 1) := by decide +kernel
theorem dX6_damp_25 : decode cX6_damp 25 = .ok (.invokevirtual 124, 3) := by decide +kernel
theorem dX6_damp_28 : decode cX6_damp 28 = .ok (.istore_n 2, 1) := by decide +kernel
theorem dX6_damp_29 : decode cX6_damp 29 = .ok (.aload_n 0, 1) := by decide +kernel
theorem dX6_damp_30 : decode cX6_damp 30 = .ok (.getfield 10, 3) := by decide +kernel
theorem dX6_damp_33 : decode cX6_damp 33 = .ok (.getfield 76, 3) := by decide +kernel
theorem dX6_damp_36 : decode cX6_damp 36 = .ok (.iload_n 1, 1) := by decide +kernel
theorem dX6_damp_37 : decode cX6_damp 37 = .ok (.invokevirtual 127, 3) := by decide +kernel
theorem dX6_damp_40 : decode cX6_damp 40 = .ok (.iload_n 2, 1) := by decide +kernel
theorem dX6_damp_41 : decode cX6_damp 41 = .ok (.ireturn, 1) := by decide +kernel
set_option maxRecDepth 20000 in
theorem ggX6_stringInfo_X6_isString : GoodIn wsX6_stringInfo wsX6_isString := goodIn_r _ [11, 12, 13, 10, 14] (by decide +kernel) (by decide +kernel)
set_option maxRecDepth 20000 in
theorem gX6_stringInfo_X6_isString : GoodIn wsX6_stringInfo (va_wsS RX6 94 yX6_isString wsX6_isString) := goodIn_app (goodIn_of _ (by decide +kernel)) ggX6_stringInfo_X6_isString
set_option maxRecDepth 20000 in
theorem ggX6_stringInfo_X5_buzzes : GoodIn wsX6_stringInfo wsX5_buzzes := goodIn_r _ [19, 20, 21, 57, 58, 59, 60, 61, 62, 63] (by decide +kernel) (by decide +kernel)
set_option maxRecDepth 20000 in
theorem gX6_stringInfo_X5_buzzes : GoodIn wsX6_stringInfo (wsV RX6 137 RX5 yX5_buzzes wsX5_buzzes) := goodIn_app (goodIn_of _ (by decide +kernel)) ggX6_stringInfo_X5_buzzes
set_option maxRecDepth 20000 in
theorem ggX6_stringInfo_X5_soundingLength : GoodIn wsX6_stringInfo wsX5_soundingLength := goodIn_r _ [25, 26, 57, 58, 59, 60, 61, 62, 63] (by decide +kernel) (by decide +kernel)
set_option maxRecDepth 20000 in
theorem gX6_stringInfo_X5_soundingLength : GoodIn wsX6_stringInfo (wsV RX6 108 RX5 yX5_soundingLength wsX5_soundingLength) := goodIn_app (goodIn_of _ (by decide +kernel)) ggX6_stringInfo_X5_soundingLength
set_option maxRecDepth 20000 in
theorem ggX6_stringInfo_X4_maskHeard : GoodIn wsX6_stringInfo wsX4_maskHeard := goodIn_r _ [31, 32, 33, 34, 35, 18, 36, 37, 38, 39, 40, 30, 41, 42, 51, 52, 53, 54, 55, 56, 57, 58, 59, 60, 61, 62, 63] (by decide +kernel) (by decide +kernel)
set_option maxRecDepth 20000 in
theorem gX6_stringInfo_X4_maskHeard : GoodIn wsX6_stringInfo (wsV RX6 140 RX4 yX4_maskHeard wsX4_maskHeard) := goodIn_app (goodIn_of _ (by decide +kernel)) ggX6_stringInfo_X4_maskHeard
set_option maxRecDepth 20000 in
theorem ggX6_stringInfo_X5_sumOfAmplitudes : GoodIn wsX6_stringInfo wsX5_sumOfAmplitudes := goodIn_r _ [46, 47, 34, 35, 18, 36, 37, 57, 58, 59, 60, 61, 62, 63] (by decide +kernel) (by decide +kernel)
set_option maxRecDepth 20000 in
theorem gX6_stringInfo_X5_sumOfAmplitudes : GoodIn wsX6_stringInfo (wsV RX6 143 RX5 yX5_sumOfAmplitudes wsX5_sumOfAmplitudes) := goodIn_app (goodIn_of _ (by decide +kernel)) ggX6_stringInfo_X5_sumOfAmplitudes
theorem dX6_stringInfo_0 : decode cX6_stringInfo 0 = .ok (.iload_n 1, 1) := by decide +kernel
theorem dX6_stringInfo_1 : decode cX6_stringInfo 1 = .ok (.invokestatic 94, 3) := by decide +kernel
theorem dX6_stringInfo_4 : decode cX6_stringInfo 4 = .ok (.ifCond .ne 5, 3) := by decide +kernel
theorem dX6_stringInfo_7 : decode cX6_stringInfo 7 = .ok (.iconst (-1), 1) := by decide +kernel
theorem dX6_stringInfo_8 : decode cX6_stringInfo 8 = .ok (.ireturn, 1) := by decide +kernel
theorem dX6_stringInfo_9 : decode cX6_stringInfo 9 = .ok (.iload_n 2, 1) := by decide +kernel
theorem dX6_stringInfo_10 : decode cX6_stringInfo 10 = .ok (.tableswitch 168 0 8 #[50, 63, 76, 89, 109, 121, 134, 143, 155], 50) := by decide +kernel
theorem dX6_stringInfo_60 : decode cX6_stringInfo 60 = .ok (.aload_n 0, 1) := by decide +kernel
theorem dX6_stringInfo_61 : decode cX6_stringInfo 61 = .ok (.getfield 10, 3) := by decide +kernel
theorem dX6_stringInfo_64 : decode cX6_stringInfo 64 = .ok (.getfield 76, 3) := by decide +kernel
theorem dX6_stringInfo_67 : decode cX6_stringInfo 67 = .ok (.getfield 98, 3) := by decide +kernel
theorem dX6_stringInfo_70 : decode cX6_stringInfo 70 = .ok (.iload_n 1, 1) := by decide +kernel
theorem dX6_stringInfo_71 : decode cX6_stringInfo 71 = .ok (.iaload, 1) := by decide +kernel
theorem dX6_stringInfo_72 : decode cX6_stringInfo 72 = .ok (.ireturn, 1) := by decide +kernel
theorem dX6_stringInfo_73 : decode cX6_stringInfo 73 = .ok (.aload_n 0, 1) := by decide +kernel
theorem dX6_stringInfo_74 : decode cX6_stringInfo 74 = .ok (.getfield 10, 3) := by decide +kernel
theorem dX6_stringInfo_77 : decode cX6_stringInfo 77 = .ok (.getfield 76, 3) := by decide +kernel
theorem dX6_stringInfo_80 : decode cX6_stringInfo 80 = .ok (.getfield 131, 3) := by decide +kernel
theorem dX6_stringInfo_83 : decode cX6_stringInfo 83 = .ok (.iload_n 1, 1) := by decide +kernel
theorem dX6_stringInfo_84 : decode cX6_stringInfo 84 = .ok (.iaload, 1) := by decide +kernel
theorem dX6_stringInfo_85 : decode cX6_stringInfo 85 = .ok (.ireturn, 1) := by decide +kernel
theorem dX6_stringInfo_86 : decode cX6_stringInfo 86 = .ok (.aload_n 0, 1) := by decide +kernel
theorem dX6_stringInfo_87 : decode cX6_stringInfo 87 = .ok (.getfield 10, 3) := by decide +kernel
theorem dX6_stringInfo_90 : decode cX6_stringInfo 90 = .ok (.getfield 76, 3) := by decide +kernel
theorem dX6_stringInfo_93 : decode cX6_stringInfo 93 = .ok (.getfield 134, 3) := by decide +kernel
theorem dX6_stringInfo_96 : decode cX6_stringInfo 96 = .ok (.iload_n 1, 1) := by decide +kernel
theorem dX6_stringInfo_97 : decode cX6_stringInfo 97 = .ok (.iaload, 1) := by decide +kernel
theorem dX6_stringInfo_98 : decode cX6_stringInfo 98 = .ok (.ireturn, 1) := by decide +kernel
theorem dX6_stringInfo_99 : decode cX6_stringInfo 99 = .ok (.aload_n 0, 1) := by decide +kernel
theorem dX6_stringInfo_100 : decode cX6_stringInfo 100 = .ok (.getfield 10, 3) := by decide +kernel
theorem dX6_stringInfo_103 : decode cX6_stringInfo 103 = .ok (.getfield 76, 3) := by decide +kernel
theorem dX6_stringInfo_106 : decode cX6_stringInfo 106 = .ok (.iload_n 1, 1) := by decide +kernel
theorem dX6_stringInfo_107 : decode cX6_stringInfo 107 = .ok (.invokevirtual 137, 3) := by decide +kernel
theorem dX6_stringInfo_110 : decode cX6_stringInfo 110 = .ok (.ifCond .eq 7, 3) := by decide +kernel
theorem dX6_stringInfo_113 : decode cX6_stringInfo 113 = .ok (.iconst 1, 1) := by decide +kernel
theorem dX6_stringInfo_114 : decode cX6_stringInfo 114 = .ok (.goto 4, 3) := by decide +kernel
theorem dX6_stringInfo_117 : decode cX6_stringInfo 117 = .ok (.iconst 0, 1) := by decide +kernel
theorem dX6_stringInfo_118 : decode cX6_stringInfo 118 = .ok (.ireturn, 1) := by decide +kernel
theorem dX6_stringInfo_119 : decode cX6_stringInfo 119 = .ok (.aload_n 0, 1) := by decide +kernel
theorem dX6_stringInfo_120 : decode cX6_stringInfo 120 = .ok (.getfield 10, 3) := by decide +kernel
theorem dX6_stringInfo_123 : decode cX6_stringInfo 123 = .ok (.getfield 76, 3) := by decide +kernel
theorem dX6_stringInfo_126 : decode cX6_stringInfo 126 = .ok (.iload_n 1, 1) := by decide +kernel
theorem dX6_stringInfo_127 : decode cX6_stringInfo 127 = .ok (.invokevirtual 108, 3) := by decide +kernel
theorem dX6_stringInfo_130 : decode cX6_stringInfo 130 = .ok (.ireturn, 1) := by decide +kernel
theorem dX6_stringInfo_131 : decode cX6_stringInfo 131 = .ok (.aload_n 0, 1) := by decide +kernel
theorem dX6_stringInfo_132 : decode cX6_stringInfo 132 = .ok (.getfield 10, 3) := by decide +kernel
theorem dX6_stringInfo_135 : decode cX6_stringInfo 135 = .ok (.getfield 76, 3) := by decide +kernel
theorem dX6_stringInfo_138 : decode cX6_stringInfo 138 = .ok (.getfield 111, 3) := by decide +kernel
theorem dX6_stringInfo_141 : decode cX6_stringInfo 141 = .ok (.iload_n 1, 1) := by decide +kernel
theorem dX6_stringInfo_142 : decode cX6_stringInfo 142 = .ok (.iaload, 1) := by decide +kernel
theorem dX6_stringInfo_143 : decode cX6_stringInfo 143 = .ok (.ireturn, 1) := by decide +kernel
theorem dX6_stringInfo_144 : decode cX6_stringInfo 144 = .ok (.aload_n 0, 1) := by decide +kernel
theorem dX6_stringInfo_145 : decode cX6_stringInfo 145 = .ok (.getfield 10, 3) := by decide +kernel
theorem dX6_stringInfo_148 : decode cX6_stringInfo 148 = .ok (.iload_n 1, 1) := by decide +kernel
theorem dX6_stringInfo_149 : decode cX6_stringInfo 149 = .ok (.invokevirtual 140, 3) := by decide +kernel
theorem dX6_stringInfo_152 : decode cX6_stringInfo 152 = .ok (.ireturn, 1) := by decide +kernel
theorem dX6_stringInfo_153 : decode cX6_stringInfo 153 = .ok (.aload_n 0, 1) := by decide +kernel
theorem dX6_stringInfo_154 : decode cX6_stringInfo 154 = .ok (.getfield 10, 3) := by decide +kernel
theorem dX6_stringInfo_157 : decode cX6_stringInfo 157 = .ok (.getfield 76, 3) := by decide +kernel
theorem dX6_stringInfo_160 : decode cX6_stringInfo 160 = .ok (.iload_n 1, 1) := by decide +kernel
theorem dX6_stringInfo_161 : decode cX6_stringInfo 161 = .ok (.invokevirtual 143, 3) := by decide +kernel
theorem dX6_stringInfo_164 : decode cX6_stringInfo 164 = .ok (.ireturn, 1) := by decide +kernel
theorem dX6_stringInfo_165 : decode cX6_stringInfo 165 = .ok (.aload_n 0, 1) := by decide +kernel
theorem dX6_stringInfo_166 : decode cX6_stringInfo 166 = .ok (.getfield 10, 3) := by decide +kernel
theorem dX6_stringInfo_169 : decode cX6_stringInfo 169 = .ok (.getfield 76, 3) := by decide +kernel
theorem dX6_stringInfo_172 : decode cX6_stringInfo 172 = .ok (.getfield 146, 3) := by decide +kernel
theorem dX6_stringInfo_175 : decode cX6_stringInfo 175 = .ok (.iload_n 1, 1) := by decide +kernel
theorem dX6_stringInfo_176 : decode cX6_stringInfo 176 = .ok (.iaload, 1) := by decide +kernel
theorem dX6_stringInfo_177 : decode cX6_stringInfo 177 = .ok (.ireturn, 1) := by decide +kernel
theorem dX6_stringInfo_178 : decode cX6_stringInfo 178 = .ok (.iconst (-1), 1) := by decide +kernel
theorem dX6_stringInfo_179 : decode cX6_stringInfo 179 = .ok (.ireturn, 1) := by decide +kernel
set_option maxRecDepth 20000 in
theorem ggX6_modeInfo_X6_isString : GoodIn wsX6_modeInfo wsX6_isString := goodIn_r _ [6, 7, 8, 5, 9] (by decide +kernel) (by decide +kernel)
set_option maxRecDepth 20000 in
theorem gX6_modeInfo_X6_isString : GoodIn wsX6_modeInfo (va_wsS RX6 94 yX6_isString wsX6_isString) := goodIn_app (goodIn_of _ (by decide +kernel)) ggX6_modeInfo_X6_isString
set_option maxRecDepth 20000 in
theorem ggX6_modeInfo_X6_isMode : GoodIn wsX6_modeInfo wsX6_isMode := goodIn_r _ [12, 7, 8, 5, 9] (by decide +kernel) (by decide +kernel)
set_option maxRecDepth 20000 in
theorem gX6_modeInfo_X6_isMode : GoodIn wsX6_modeInfo (va_wsS RX6 149 yX6_isMode wsX6_isMode) := goodIn_app (goodIn_of _ (by decide +kernel)) ggX6_modeInfo_X6_isMode
set_option maxRecDepth 20000 in
theorem ggX6_modeInfo_X5_amplitudeOf : GoodIn wsX6_modeInfo wsX5_amplitudeOf := goodIn_r _ [17, 18, 44, 45, 46, 47, 48, 49, 50] (by decide +kernel) (by decide +kernel)
set_option maxRecDepth 20000 in
theorem gX6_modeInfo_X5_amplitudeOf : GoodIn wsX6_modeInfo (wsV RX6 152 RX5 yX5_amplitudeOf wsX5_amplitudeOf) := goodIn_app (goodIn_of _ (by decide +kernel)) ggX6_modeInfo_X5_amplitudeOf
set_option maxRecDepth 20000 in
theorem ggX6_modeInfo_X5_pitchOf : GoodIn wsX6_modeInfo wsX5_pitchOf := goodIn_r _ [22, 23, 24, 25, 26, 16, 27, 28, 44, 45, 46, 47, 48, 49, 50] (by decide +kernel) (by decide +kernel)
set_option maxRecDepth 20000 in
theorem gX6_modeInfo_X5_pitchOf : GoodIn wsX6_modeInfo (wsV RX6 155 RX5 yX5_pitchOf wsX5_pitchOf) := goodIn_app (goodIn_of _ (by decide +kernel)) ggX6_modeInfo_X5_pitchOf
set_option maxRecDepth 20000 in
theorem ggX6_modeInfo_X5_wholeNodes : GoodIn wsX6_modeInfo wsX5_wholeNodes := goodIn_r _ [32, 24, 25, 26, 16, 27, 28, 33, 5, 34, 44, 45, 46, 47, 48, 49, 50] (by decide +kernel) (by decide +kernel)
set_option maxRecDepth 20000 in
theorem gX6_modeInfo_X5_wholeNodes : GoodIn wsX6_modeInfo (wsV RX6 158 RX5 yX5_wholeNodes wsX5_wholeNodes) := goodIn_app (goodIn_of _ (by decide +kernel)) ggX6_modeInfo_X5_wholeNodes
theorem dX6_modeInfo_0 : decode cX6_modeInfo 0 = .ok (.iload_n 1, 1) := by decide +kernel
theorem dX6_modeInfo_1 : decode cX6_modeInfo 1 = .ok (.invokestatic 94, 3) := by decide +kernel
theorem dX6_modeInfo_4 : decode cX6_modeInfo 4 = .ok (.ifCond .eq 10, 3) := by decide +kernel
theorem dX6_modeInfo_7 : decode cX6_modeInfo 7 = .ok (.iload_n 2, 1) := by decide +kernel
theorem dX6_modeInfo_8 : decode cX6_modeInfo 8 = .ok (.invokestatic 149, 3) := by decide +kernel
theorem dX6_modeInfo_11 : decode cX6_modeInfo 11 = .ok (.ifCond .ne 5, 3) := by decide +kernel
theorem dX6_modeInfo_14 : decode cX6_modeInfo 14 = .ok (.iconst (-1), 1) := by decide +kernel
theorem dX6_modeInfo_15 : decode cX6_modeInfo 15 = .ok (.ireturn, 1) := by decide +kernel
theorem dX6_modeInfo_16 : decode cX6_modeInfo 16 = .ok (.iload_n 3, 1) := by decide +kernel
theorem dX6_modeInfo_17 : decode cX6_modeInfo 17 = .ok (.tableswitch 66 0 2 #[27, 40, 53], 27) := by decide +kernel
theorem dX6_modeInfo_44 : decode cX6_modeInfo 44 = .ok (.aload_n 0, 1) := by decide +kernel
theorem dX6_modeInfo_45 : decode cX6_modeInfo 45 = .ok (.getfield 10, 3) := by decide +kernel
theorem dX6_modeInfo_48 : decode cX6_modeInfo 48 = .ok (.getfield 76, 3) := by decide +kernel
theorem dX6_modeInfo_51 : decode cX6_modeInfo 51 = .ok (.iload_n 1, 1) := by decide +kernel
theorem dX6_modeInfo_52 : decode cX6_modeInfo 52 = .ok (.iload_n 2, 1) := by decide +kernel
theorem dX6_modeInfo_53 : decode cX6_modeInfo 53 = .ok (.invokevirtual 152, 3) := by decide +kernel
theorem dX6_modeInfo_56 : decode cX6_modeInfo 56 = .ok (.ireturn, 1) := by decide +kernel
theorem dX6_modeInfo_57 : decode cX6_modeInfo 57 = .ok (.aload_n 0, 1) := by decide +kernel
theorem dX6_modeInfo_58 : decode cX6_modeInfo 58 = .ok (.getfield 10, 3) := by decide +kernel
theorem dX6_modeInfo_61 : decode cX6_modeInfo 61 = .ok (.getfield 76, 3) := by decide +kernel
theorem dX6_modeInfo_64 : decode cX6_modeInfo 64 = .ok (.iload_n 1, 1) := by decide +kernel
theorem dX6_modeInfo_65 : decode cX6_modeInfo 65 = .ok (.iload_n 2, 1) := by decide +kernel
theorem dX6_modeInfo_66 : decode cX6_modeInfo 66 = .ok (.invokevirtual 155, 3) := by decide +kernel
theorem dX6_modeInfo_69 : decode cX6_modeInfo 69 = .ok (.ireturn, 1) := by decide +kernel
theorem dX6_modeInfo_70 : decode cX6_modeInfo 70 = .ok (.aload_n 0, 1) := by decide +kernel
theorem dX6_modeInfo_71 : decode cX6_modeInfo 71 = .ok (.getfield 10, 3) := by decide +kernel
theorem dX6_modeInfo_74 : decode cX6_modeInfo 74 = .ok (.getfield 76, 3) := by decide +kernel
theorem dX6_modeInfo_77 : decode cX6_modeInfo 77 = .ok (.iload_n 1, 1) := by decide +kernel
theorem dX6_modeInfo_78 : decode cX6_modeInfo 78 = .ok (.iload_n 2, 1) := by decide +kernel
theorem dX6_modeInfo_79 : decode cX6_modeInfo 79 = .ok (.invokevirtual 158, 3) := by decide +kernel
theorem dX6_modeInfo_82 : decode cX6_modeInfo 82 = .ok (.ireturn, 1) := by decide +kernel
theorem dX6_modeInfo_83 : decode cX6_modeInfo 83 = .ok (.iconst (-1), 1) := by decide +kernel
theorem dX6_modeInfo_84 : decode cX6_modeInfo 84 = .ok (.ireturn, 1) := by decide +kernel
set_option maxRecDepth 20000 in
theorem ggX6_node_X6_isString : GoodIn wsX6_node wsX6_isString := goodIn_r _ [7, 8, 9, 6, 10] (by decide +kernel) (by decide +kernel)
set_option maxRecDepth 20000 in
theorem gX6_node_X6_isString : GoodIn wsX6_node (va_wsS RX6 94 yX6_isString wsX6_isString) := goodIn_app (goodIn_of _ (by decide +kernel)) ggX6_node_X6_isString
set_option maxRecDepth 20000 in
theorem ggX6_node_X6_isMode : GoodIn wsX6_node wsX6_isMode := goodIn_r _ [13, 8, 9, 6, 10] (by decide +kernel) (by decide +kernel)
set_option maxRecDepth 20000 in
theorem gX6_node_X6_isMode : GoodIn wsX6_node (va_wsS RX6 149 yX6_isMode wsX6_isMode) := goodIn_app (goodIn_of _ (by decide +kernel)) ggX6_node_X6_isMode
set_option maxRecDepth 20000 in
theorem ggX6_node_X6_isPlace : GoodIn wsX6_node wsX6_isPlace := goodIn_r _ [16, 8, 9, 6, 10] (by decide +kernel) (by decide +kernel)
set_option maxRecDepth 20000 in
theorem gX6_node_X6_isPlace : GoodIn wsX6_node (va_wsS RX6 114 yX6_isPlace wsX6_isPlace) := goodIn_app (goodIn_of _ (by decide +kernel)) ggX6_node_X6_isPlace
set_option maxRecDepth 20000 in
theorem ggX6_node_X5_distanceFromNode : GoodIn wsX6_node wsX5_distanceFromNode := goodIn_r _ [21, 22, 23, 24, 25, 26, 27, 28, 29, 20, 30, 31, 32, 33, 34, 44, 45, 46, 47, 48, 49, 50] (by decide +kernel) (by decide +kernel)
set_option maxRecDepth 20000 in
theorem gX6_node_X5_distanceFromNode : GoodIn wsX6_node (wsV RX6 161 RX5 yX5_distanceFromNode wsX5_distanceFromNode) := goodIn_app (goodIn_of _ (by decide +kernel)) ggX6_node_X5_distanceFromNode
theorem dX6_node_0 : decode cX6_node 0 = .ok (.iload_n 1, 1) := by decide +kernel
theorem dX6_node_1 : decode cX6_node 1 = .ok (.invokestatic 94, 3) := by decide +kernel
theorem dX6_node_4 : decode cX6_node 4 = .ok (.ifCond .eq 17, 3) := by decide +kernel
theorem dX6_node_7 : decode cX6_node 7 = .ok (.iload_n 2, 1) := by decide +kernel
theorem dX6_node_8 : decode cX6_node 8 = .ok (.invokestatic 149, 3) := by decide +kernel
theorem dX6_node_11 : decode cX6_node 11 = .ok (.ifCond .eq 10, 3) := by decide +kernel
theorem dX6_node_14 : decode cX6_node 14 = .ok (.iload_n 3, 1) := by decide +kernel
theorem dX6_node_15 : decode cX6_node 15 = .ok (.invokestatic 114, 3) := by decide +kernel
theorem dX6_node_18 : decode cX6_node 18 = .ok (.ifCond .ne 5, 3) := by decide +kernel
theorem dX6_node_21 : decode cX6_node 21 = .ok (.iconst (-1), 1) := by decide +kernel
theorem dX6_node_22 : decode cX6_node 22 = .ok (.ireturn, 1) := by decide +kernel
theorem dX6_node_23 : decode cX6_node 23 = .ok (.iload_n 3, 1) := by decide +kernel
theorem dX6_node_24 : decode cX6_node 24 = .ok (.aload_n 0, 1) := by decide +kernel
theorem dX6_node_25 : decode cX6_node 25 = .ok (.getfield 10, 3) := by decide +kernel
theorem dX6_node_28 : decode cX6_node 28 = .ok (.getfield 76, 3) := by decide +kernel
theorem dX6_node_31 : decode cX6_node 31 = .ok (.getfield 117, 3) := by decide +kernel
theorem dX6_node_34 : decode cX6_node 34 = .ok (.iload_n 1, 1) := by decide +kernel
theorem dX6_node_35 : decode cX6_node 35 = .ok (.iaload, 1) := by decide +kernel
theorem dX6_node_36 : decode cX6_node 36 = .ok (.if_icmp .gt 6, 3) := by decide +kernel
theorem dX6_node_39 : decode cX6_node 39 = .ok (.bipush (-4), 2) := by decide +kernel
theorem dX6_node_41 : decode cX6_node 41 = .ok (.ireturn, 1) := by decide +kernel
theorem dX6_node_42 : decode cX6_node 42 = .ok (.aload_n 0, 1) := by decide +kernel
theorem dX6_node_43 : decode cX6_node 43 = .ok (.getfield 10, 3) := by decide +kernel
theorem dX6_node_46 : decode cX6_node 46 = .ok (.getfield 76, 3) := by decide +kernel
theorem dX6_node_49 : decode cX6_node 49 = .ok (.iload_n 1, 1) := by decide +kernel
theorem dX6_node_50 : decode cX6_node 50 = .ok (.iload_n 2, 1) := by decide +kernel
theorem dX6_node_51 : decode cX6_node 51 = .ok (.iload_n 3, 1) := by decide +kernel
theorem dX6_node_52 : decode cX6_node 52 = .ok (.invokevirtual 161, 3) := by decide +kernel
theorem dX6_node_55 : decode cX6_node 55 = .ok (.ifCond .ne 7, 3) := by decide +kernel
theorem dX6_node_58 : decode cX6_node 58 = .ok (.iconst 1, 1) := by decide +kernel
theorem dX6_node_59 : decode cX6_node 59 = .ok (.goto 4, 3) := by decide +kernel
theorem dX6_node_62 : decode cX6_node 62 = .ok (.iconst 0, 1) := by decide +kernel
theorem dX6_node_63 : decode cX6_node 63 = .ok (.ireturn, 1) := by decide +kernel
set_option maxRecDepth 20000 in
theorem ggX6_nodeAgain_X6_isString : GoodIn wsX6_nodeAgain wsX6_isString := goodIn_r _ [7, 8, 9, 6, 10] (by decide +kernel) (by decide +kernel)
set_option maxRecDepth 20000 in
theorem gX6_nodeAgain_X6_isString : GoodIn wsX6_nodeAgain (va_wsS RX6 94 yX6_isString wsX6_isString) := goodIn_app (goodIn_of _ (by decide +kernel)) ggX6_nodeAgain_X6_isString
set_option maxRecDepth 20000 in
theorem ggX6_nodeAgain_X6_isMode : GoodIn wsX6_nodeAgain wsX6_isMode := goodIn_r _ [13, 8, 9, 6, 10] (by decide +kernel) (by decide +kernel)
set_option maxRecDepth 20000 in
theorem gX6_nodeAgain_X6_isMode : GoodIn wsX6_nodeAgain (va_wsS RX6 149 yX6_isMode wsX6_isMode) := goodIn_app (goodIn_of _ (by decide +kernel)) ggX6_nodeAgain_X6_isMode
set_option maxRecDepth 20000 in
theorem ggX6_nodeAgain_X6_isPlace : GoodIn wsX6_nodeAgain wsX6_isPlace := goodIn_r _ [16, 8, 9, 6, 10] (by decide +kernel) (by decide +kernel)
set_option maxRecDepth 20000 in
theorem gX6_nodeAgain_X6_isPlace : GoodIn wsX6_nodeAgain (va_wsS RX6 114 yX6_isPlace wsX6_isPlace) := goodIn_app (goodIn_of _ (by decide +kernel)) ggX6_nodeAgain_X6_isPlace
set_option maxRecDepth 20000 in
theorem ggX6_nodeAgain_X5_hasNodeByDivisor : GoodIn wsX6_nodeAgain wsX5_hasNodeByDivisor := goodIn_r _ [21, 22, 23, 24, 25, 20, 26, 27, 6, 28, 38, 39, 40, 41, 42, 43, 44] (by decide +kernel) (by decide +kernel)
set_option maxRecDepth 20000 in
theorem gX6_nodeAgain_X5_hasNodeByDivisor : GoodIn wsX6_nodeAgain (wsV RX6 165 RX5 yX5_hasNodeByDivisor wsX5_hasNodeByDivisor) := goodIn_app (goodIn_of _ (by decide +kernel)) ggX6_nodeAgain_X5_hasNodeByDivisor
theorem dX6_nodeAgain_0 : decode cX6_nodeAgain 0 = .ok (.iload_n 1, 1) := by decide +kernel
theorem dX6_nodeAgain_1 : decode cX6_nodeAgain 1 = .ok (.invokestatic 94, 3) := by decide +kernel
theorem dX6_nodeAgain_4 : decode cX6_nodeAgain 4 = .ok (.ifCond .eq 17, 3) := by decide +kernel
theorem dX6_nodeAgain_7 : decode cX6_nodeAgain 7 = .ok (.iload_n 2, 1) := by decide +kernel
theorem dX6_nodeAgain_8 : decode cX6_nodeAgain 8 = .ok (.invokestatic 149, 3) := by decide +kernel
theorem dX6_nodeAgain_11 : decode cX6_nodeAgain 11 = .ok (.ifCond .eq 10, 3) := by decide +kernel
theorem dX6_nodeAgain_14 : decode cX6_nodeAgain 14 = .ok (.iload_n 3, 1) := by decide +kernel
theorem dX6_nodeAgain_15 : decode cX6_nodeAgain 15 = .ok (.invokestatic 114, 3) := by decide +kernel
theorem dX6_nodeAgain_18 : decode cX6_nodeAgain 18 = .ok (.ifCond .ne 5, 3) := by decide +kernel
theorem dX6_nodeAgain_21 : decode cX6_nodeAgain 21 = .ok (.iconst (-1), 1) := by decide +kernel
theorem dX6_nodeAgain_22 : decode cX6_nodeAgain 22 = .ok (.ireturn, 1) := by decide +kernel
theorem dX6_nodeAgain_23 : decode cX6_nodeAgain 23 = .ok (.iload_n 3, 1) := by decide +kernel
theorem dX6_nodeAgain_24 : decode cX6_nodeAgain 24 = .ok (.aload_n 0, 1) := by decide +kernel
theorem dX6_nodeAgain_25 : decode cX6_nodeAgain 25 = .ok (.getfield 10, 3) := by decide +kernel
theorem dX6_nodeAgain_28 : decode cX6_nodeAgain 28 = .ok (.getfield 76, 3) := by decide +kernel
theorem dX6_nodeAgain_31 : decode cX6_nodeAgain 31 = .ok (.getfield 117, 3) := by decide +kernel
theorem dX6_nodeAgain_34 : decode cX6_nodeAgain 34 = .ok (.iload_n 1, 1) := by decide +kernel
theorem dX6_nodeAgain_35 : decode cX6_nodeAgain 35 = .ok (.iaload, 1) := by decide +kernel
theorem dX6_nodeAgain_36 : decode cX6_nodeAgain 36 = .ok (.if_icmp .gt 6, 3) := by decide +kernel
theorem dX6_nodeAgain_39 : decode cX6_nodeAgain 39 = .ok (.bipush (-4), 2) := by decide +kernel
theorem dX6_nodeAgain_41 : decode cX6_nodeAgain 41 = .ok (.ireturn, 1) := by decide +kernel
theorem dX6_nodeAgain_42 : decode cX6_nodeAgain 42 = .ok (.aload_n 0, 1) := by decide +kernel
theorem dX6_nodeAgain_43 : decode cX6_nodeAgain 43 = .ok (.getfield 10, 3) := by decide +kernel
theorem dX6_nodeAgain_46 : decode cX6_nodeAgain 46 = .ok (.getfield 76, 3) := by decide +kernel
theorem dX6_nodeAgain_49 : decode cX6_nodeAgain 49 = .ok (.iload_n 1, 1) := by decide +kernel
theorem dX6_nodeAgain_50 : decode cX6_nodeAgain 50 = .ok (.iload_n 2, 1) := by decide +kernel
theorem dX6_nodeAgain_51 : decode cX6_nodeAgain 51 = .ok (.iload_n 3, 1) := by decide +kernel
theorem dX6_nodeAgain_52 : decode cX6_nodeAgain 52 = .ok (.invokevirtual 165, 3) := by decide +kernel
theorem dX6_nodeAgain_55 : decode cX6_nodeAgain 55 = .ok (.ifCond .eq 7, 3) := by decide +kernel
theorem dX6_nodeAgain_58 : decode cX6_nodeAgain 58 = .ok (.iconst 1, 1) := by decide +kernel
theorem dX6_nodeAgain_59 : decode cX6_nodeAgain 59 = .ok (.goto 4, 3) := by decide +kernel
theorem dX6_nodeAgain_62 : decode cX6_nodeAgain 62 = .ok (.iconst 0, 1) := by decide +kernel
theorem dX6_nodeAgain_63 : decode cX6_nodeAgain 63 = .ok (.ireturn, 1) := by decide +kernel
set_option maxRecDepth 20000 in
theorem ggX6_set_X6_isWithin : GoodIn wsX6_set wsX6_isWithin := goodIn_r _ [9] (by decide +kernel) (by decide +kernel)
set_option maxRecDepth 20000 in
theorem gX6_set_X6_isWithin : GoodIn wsX6_set (va_wsS RX6 30 yX6_isWithin wsX6_isWithin) := goodIn_app (goodIn_of _ (by decide +kernel)) ggX6_set_X6_isWithin
set_option maxRecDepth 20000 in
theorem ggX6_set_X0_keep : GoodIn wsX6_set wsX0_keep := goodIn_r _ [14, 15, 16, 17, 18, 19, 13, 20, 21, 22, 23, 24, 25, 26, 27, 28, 29, 30, 31, 32, 33, 34, 35, 36, 37, 38, 39, 40, 41, 42, 43, 44, 45, 46, 47, 48, 49, 50, 51, 52, 53, 54, 55, 56, 57, 58, 59, 60, 61, 62, 63, 64, 65, 66, 67, 68, 78, 79, 80, 72, 73, 74, 75, 76, 77, 81, 82, 83, 84, 85, 86, 87, 88, 89, 90, 91, 92, 93, 94] (by decide +kernel) (by decide +kernel)
set_option maxRecDepth 20000 in
theorem gX6_set_X0_keep : GoodIn wsX6_set (wsV RX6 48 RX0 yX0_keep wsX0_keep) := goodIn_app (goodIn_of _ (by decide +kernel)) ggX6_set_X0_keep
theorem dX6_set_0 : decode cX6_set 0 = .ok (.iload_n 1, 1) := by decide +kernel
theorem dX6_set_1 : decode cX6_set 1 = .ok (.iconst 0, 1) := by decide +kernel
theorem dX6_set_2 : decode cX6_set 2 = .ok (.getstatic 168, 3) := by decide +kernel
theorem dX6_set_5 : decode cX6_set 5 = .ok (.arraylength, 1) := by decide +kernel
theorem dX6_set_6 : decode cX6_set 6 = .ok (.iconst 1, 1) := by decide +kernel
theorem dX6_set_7 : decode cX6_set 7 = .ok (.isub, 1) := by decide +kernel
theorem dX6_set_8 : decode cX6_set 8 = .ok (.invokestatic 30, 3) := by decide +kernel
theorem dX6_set_11 : decode cX6_set 11 = .ok (.ifCond .eq 20, 3) := by decide +kernel
theorem dX6_set_14 : decode cX6_set 14 = .ok (.iload_n 2, 1) := by decide +kernel
theorem dX6_set_15 : decode cX6_set 15 = .ok (.getstatic 171, 3) := by decide +kernel
theorem dX6_set_18 : decode cX6_set 18 = .ok (.iload_n 1, 1) := by decide +kernel
theorem dX6_set_19 : decode cX6_set 19 = .ok (.iaload, 1) := by decide +kernel
theorem dX6_set_20 : decode cX6_set 20 = .ok (.getstatic 168, 3) := by decide +kernel
theorem dX6_set_23 : decode cX6_set 23 = .ok (.iload_n 1, 1) := by decide +kernel
theorem dX6_set_24 : decode cX6_set 24 = .ok (.iaload, 1) := by decide +kernel
theorem dX6_set_25 : decode cX6_set 25 = .ok (.invokestatic 30, 3) := by decide +kernel
theorem dX6_set_28 : decode cX6_set 28 = .ok (.ifCond .ne 5, 3) := by decide +kernel
theorem dX6_set_31 : decode cX6_set 31 = .ok (.iconst (-1), 1) := by decide +kernel
theorem dX6_set_32 : decode cX6_set 32 = .ok (.ireturn, 1) := by decide +kernel
theorem dX6_set_33 : decode cX6_set 33 = .ok (.aload_n 0, 1) := by decide +kernel
theorem dX6_set_34 : decode cX6_set 34 = .ok (.getfield 19, 3) := by decide +kernel
theorem dX6_set_37 : decode cX6_set 37 = .ok (.aload_n 0, 1) := by decide +kernel
theorem dX6_set_38 : decode cX6_set 38 = .ok (.getfield 10, 3) := by decide +kernel
theorem dX6_set_41 : decode cX6_set 41 = .ok (.invokevirtual 48, 3) := by decide +kernel
theorem dX6_set_44 : decode cX6_set 44 = .ok (.aload_n 0, 1) := by decide +kernel
theorem dX6_set_45 : decode cX6_set 45 = .ok (.getfield 10, 3) := by decide +kernel
theorem dX6_set_48 : decode cX6_set 48 = .ok (.getfield 174, 3) := by decide +kernel
theorem dX6_set_51 : decode cX6_set 51 = .ok (.iload_n 1, 1) := by decide +kernel
theorem dX6_set_52 : decode cX6_set 52 = .ok (.iaload, 1) := by decide +kernel
theorem dX6_set_53 : decode cX6_set 53 = .ok (.istore_n 3, 1) := by decide +kernel
theorem dX6_set_54 : decode cX6_set 54 = .ok (.aload_n 0, 1) := by decide +kernel
theorem dX6_set_55 : decode cX6_set 55 = .ok (.getfield 10, 3) := by decide +kernel
theorem dX6_set_58 : decode cX6_set 58 = .ok (.getfield 174, 3) := by decide +kernel
theorem dX6_set_61 : decode cX6_set 61 = .ok (.iload_n 1, 1) := by decide +kernel
theorem dX6_set_62 : decode cX6_set 62 = .ok (.iload_n 2, 1) := by decide +kernel
theorem dX6_set_63 : decode cX6_set 63 = .ok (.iastore, 1) := by decide +kernel
theorem dX6_set_64 : decode cX6_set 64 = .ok (.iload_n 3, 1) := by decide +kernel
theorem dX6_set_65 : decode cX6_set 65 = .ok (.ireturn, 1) := by decide +kernel
set_option maxRecDepth 20000 in
theorem ggX6_run_X6_isWithin : GoodIn wsX6_run wsX6_isWithin := goodIn_r _ [8] (by decide +kernel) (by decide +kernel)
set_option maxRecDepth 20000 in
theorem gX6_run_X6_isWithin : GoodIn wsX6_run (va_wsS RX6 30 yX6_isWithin wsX6_isWithin) := goodIn_app (goodIn_of _ (by decide +kernel)) ggX6_run_X6_isWithin
set_option maxRecDepth 20000 in
theorem ggX6_run_X0_keep : GoodIn wsX6_run wsX0_keep := goodIn_r _ [13, 14, 15, 16, 17, 18, 12, 19, 20, 21, 22, 23, 24, 25, 26, 27, 28, 29, 30, 31, 32, 33, 34, 35, 36, 37, 38, 39, 40, 41, 42, 43, 44, 45, 46, 47, 48, 49, 50, 51, 52, 53, 54, 55, 56, 57, 58, 59, 60, 61, 62, 63, 64, 65, 66, 67, 136, 137, 138, 130, 131, 132, 133, 134, 135, 139, 140, 141, 142, 143, 144, 145, 146, 147, 148, 149, 150, 151, 152] (by decide +kernel) (by decide +kernel)
set_option maxRecDepth 20000 in
theorem gX6_run_X0_keep : GoodIn wsX6_run (wsV RX6 48 RX0 yX0_keep wsX0_keep) := goodIn_app (goodIn_of _ (by decide +kernel)) ggX6_run_X0_keep
set_option maxRecDepth 20000 in
theorem ggX6_run_X4_letGoBy : GoodIn wsX6_run wsX4_letGoBy := goodIn_r _ [71, 27, 34, 72, 73, 74, 49, 75, 54, 57, 76, 77, 78, 79, 80, 81, 82, 83, 84, 85, 86, 87, 88, 89, 90, 91, 92, 93, 94, 95, 58, 96, 97, 98, 24, 99, 29, 100, 101, 102, 103, 130, 131, 132, 133, 134, 135, 143, 144, 145, 146, 147, 148, 149] (by decide +kernel) (by decide +kernel)
set_option maxRecDepth 20000 in
theorem gX6_run_X4_letGoBy : GoodIn wsX6_run (wsV RX6 181 RX4 yX4_letGoBy wsX4_letGoBy) := goodIn_app (goodIn_of _ (by decide +kernel)) ggX6_run_X4_letGoBy
set_option maxRecDepth 20000 in
theorem ggX6_run_X4_heardInAll : GoodIn wsX6_run wsX4_heardInAll := goodIn_r _ [107, 108, 109, 110, 24, 111, 112, 113, 114, 115, 27, 92, 93, 94, 49, 95, 58, 116, 117, 118, 119, 29, 120, 121, 122, 123, 124, 125, 126, 130, 131, 132, 133, 134, 135, 143, 144, 145, 146, 147, 148, 149] (by decide +kernel) (by decide +kernel)
set_option maxRecDepth 20000 in
theorem gX6_run_X4_heardInAll : GoodIn wsX6_run (wsV RX6 184 RX4 yX4_heardInAll wsX4_heardInAll) := goodIn_app (goodIn_of _ (by decide +kernel)) ggX6_run_X4_heardInAll
theorem dX6_run_0 : decode cX6_run 0 = .ok (.iload_n 1, 1) := by decide +kernel
theorem dX6_run_1 : decode cX6_run 1 = .ok (.iconst 1, 1) := by decide +kernel
theorem dX6_run_2 : decode cX6_run 2 = .ok (.sipush 500, 3) := by decide +kernel
theorem dX6_run_5 : decode cX6_run 5 = .ok (.invokestatic 30, 3) := by decide +kernel
theorem dX6_run_8 : decode cX6_run 8 = .ok (.ifCond .ne 5, 3) := by decide +kernel
theorem dX6_run_11 : decode cX6_run 11 = .ok (.iconst (-1), 1) := by decide +kernel
theorem dX6_run_12 : decode cX6_run 12 = .ok (.ireturn, 1) := by decide +kernel
theorem dX6_run_13 : decode cX6_run 13 = .ok (.aload_n 0, 1) := by decide +kernel
theorem dX6_run_14 : decode cX6_run 14 = .ok (.getfield 10, 3) := by decide +kernel
theorem dX6_run_17 : decode cX6_run 17 = .ok (.getfield 177, 3) := by decide +kernel
theorem dX6_run_20 : decode cX6_run 20 = .ok (.iload_n 1, 1) := by decide +kernel
theorem dX6_run_21 : decode cX6_run 21 = .ok (.iadd, 1) := by decide +kernel
theorem dX6_run_22 : decode cX6_run 22 = .ok (.ldc 180, 2) := by decide +kernel
theorem dX6_run_24 : decode cX6_run 24 = .ok (.if_icmp .le 6, 3) := by decide +kernel
theorem dX6_run_27 : decode cX6_run 27 = .ok (.bipush (-3), 2) := by decide +kernel
theorem dX6_run_29 : decode cX6_run 29 = .ok (.ireturn, 1) := by decide +kernel
theorem dX6_run_30 : decode cX6_run 30 = .ok (.aload_n 0, 1) := by decide +kernel
theorem dX6_run_31 : decode cX6_run 31 = .ok (.getfield 19, 3) := by decide +kernel
theorem dX6_run_34 : decode cX6_run 34 = .ok (.aload_n 0, 1) := by decide +kernel
theorem dX6_run_35 : decode cX6_run 35 = .ok (.getfield 10, 3) := by decide +kernel
theorem dX6_run_38 : decode cX6_run 38 = .ok (.invokevirtual 48, 3) := by decide +kernel
theorem dX6_run_41 : decode cX6_run 41 = .ok (.aload_n 0, 1) := by decide +kernel
theorem dX6_run_42 : decode cX6_run 42 = .ok (.getfield 10, 3) := by decide +kernel
theorem dX6_run_45 : decode cX6_run 45 = .ok (.iload_n 1, 1) := by decide +kernel
theorem dX6_run_46 : decode cX6_run 46 = .ok (.invokevirtual 181, 3) := by decide +kernel
theorem dX6_run_49 : decode cX6_run 49 = .ok (.aload_n 0, 1) := by decide +kernel
theorem dX6_run_50 : decode cX6_run 50 = .ok (.getfield 10, 3) := by decide +kernel
theorem dX6_run_53 : decode cX6_run 53 = .ok (.invokevirtual 184, 3) := by decide +kernel
theorem dX6_run_56 : decode cX6_run 56 = .ok (.ireturn, 1) := by decide +kernel
set_option maxRecDepth 20000 in
theorem ggX6_ticksTo_X6_isString : GoodIn wsX6_ticksTo wsX6_isString := goodIn_r _ [5, 6, 7, 4, 8] (by decide +kernel) (by decide +kernel)
set_option maxRecDepth 20000 in
theorem gX6_ticksTo_X6_isString : GoodIn wsX6_ticksTo (va_wsS RX6 94 yX6_isString wsX6_isString) := goodIn_app (goodIn_of _ (by decide +kernel)) ggX6_ticksTo_X6_isString
set_option maxRecDepth 20000 in
theorem ggX6_ticksTo_X6_isMode : GoodIn wsX6_ticksTo wsX6_isMode := goodIn_r _ [11, 6, 7, 4, 8] (by decide +kernel) (by decide +kernel)
set_option maxRecDepth 20000 in
theorem gX6_ticksTo_X6_isMode : GoodIn wsX6_ticksTo (va_wsS RX6 149 yX6_isMode wsX6_isMode) := goodIn_app (goodIn_of _ (by decide +kernel)) ggX6_ticksTo_X6_isMode
set_option maxRecDepth 20000 in
theorem ggX6_ticksTo_X4_ticksUntilUnheard : GoodIn wsX6_ticksTo wsX4_ticksUntilUnheard := goodIn_r _ [16, 17, 18, 19, 20, 21, 22, 23, 24, 25, 26, 27, 28, 29, 30, 31, 32, 33, 34, 35, 36, 37, 38, 39, 40, 41, 42, 43, 44, 45, 46, 47, 48, 15, 49, 50, 51, 52, 53, 54, 58, 59, 60, 61, 62, 63, 64, 65, 66, 67, 68, 69, 70] (by decide +kernel) (by decide +kernel)
set_option maxRecDepth 20000 in
theorem gX6_ticksTo_X4_ticksUntilUnheard : GoodIn wsX6_ticksTo (wsV RX6 188 RX4 yX4_ticksUntilUnheard wsX4_ticksUntilUnheard) := goodIn_app (goodIn_of _ (by decide +kernel)) ggX6_ticksTo_X4_ticksUntilUnheard
theorem dX6_ticksTo_0 : decode cX6_ticksTo 0 = .ok (.iload_n 1, 1) := by decide +kernel
theorem dX6_ticksTo_1 : decode cX6_ticksTo 1 = .ok (.invokestatic 94, 3) := by decide +kernel
theorem dX6_ticksTo_4 : decode cX6_ticksTo 4 = .ok (.ifCond .eq 10, 3) := by decide +kernel
theorem dX6_ticksTo_7 : decode cX6_ticksTo 7 = .ok (.iload_n 2, 1) := by decide +kernel
theorem dX6_ticksTo_8 : decode cX6_ticksTo 8 = .ok (.invokestatic 149, 3) := by decide +kernel
theorem dX6_ticksTo_11 : decode cX6_ticksTo 11 = .ok (.ifCond .ne 5, 3) := by decide +kernel
theorem dX6_ticksTo_14 : decode cX6_ticksTo 14 = .ok (.iconst (-1), 1) := by decide +kernel
theorem dX6_ticksTo_15 : decode cX6_ticksTo 15 = .ok (.ireturn, 1) := by decide +kernel
theorem dX6_ticksTo_16 : decode cX6_ticksTo 16 = .ok (.aload_n 0, 1) := by decide +kernel
theorem dX6_ticksTo_17 : decode cX6_ticksTo 17 = .ok (.getfield 10, 3) := by decide +kernel
theorem dX6_ticksTo_20 : decode cX6_ticksTo 20 = .ok (.iload_n 1, 1) := by decide +kernel
theorem dX6_ticksTo_21 : decode cX6_ticksTo 21 = .ok (.iload_n 2, 1) := by decide +kernel
theorem dX6_ticksTo_22 : decode cX6_ticksTo 22 = .ok (.invokevirtual 188, 3) := by decide +kernel
theorem dX6_ticksTo_25 : decode cX6_ticksTo 25 = .ok (.ireturn, 1) := by decide +kernel
set_option maxRecDepth 20000 in
theorem ggX6_beat_X6_isString : GoodIn wsX6_beat wsX6_isString := goodIn_r _ [5, 6, 7, 4, 8] (by decide +kernel) (by decide +kernel)
set_option maxRecDepth 20000 in
theorem gX6_beat_X6_isString : GoodIn wsX6_beat (va_wsS RX6 94 yX6_isString wsX6_isString) := goodIn_app (goodIn_of _ (by decide +kernel)) ggX6_beat_X6_isString
set_option maxRecDepth 20000 in
theorem ggX6_beat_X6_isMode : GoodIn wsX6_beat wsX6_isMode := goodIn_r _ [11, 6, 7, 4, 8] (by decide +kernel) (by decide +kernel)
set_option maxRecDepth 20000 in
theorem gX6_beat_X6_isMode : GoodIn wsX6_beat (va_wsS RX6 149 yX6_isMode wsX6_isMode) := goodIn_app (goodIn_of _ (by decide +kernel)) ggX6_beat_X6_isMode
set_option maxRecDepth 20000 in
theorem ggX6_beat_X4_beatOf : GoodIn wsX6_beat wsX4_beatOf := goodIn_r _ [16, 17, 18, 19, 20, 21, 22, 23, 24, 25, 26, 27, 28, 29, 30, 15, 31, 32, 33, 34, 35, 36, 37, 38, 39, 40, 41, 42, 46, 47, 48, 49, 50, 51, 52, 53, 54, 55, 56, 57, 58] (by decide +kernel) (by decide +kernel)
set_option maxRecDepth 20000 in
theorem gX6_beat_X4_beatOf : GoodIn wsX6_beat (wsV RX6 191 RX4 yX4_beatOf wsX4_beatOf) := goodIn_app (goodIn_of _ (by decide +kernel)) ggX6_beat_X4_beatOf
theorem dX6_beat_0 : decode cX6_beat 0 = .ok (.iload_n 1, 1) := by decide +kernel
theorem dX6_beat_1 : decode cX6_beat 1 = .ok (.invokestatic 94, 3) := by decide +kernel
theorem dX6_beat_4 : decode cX6_beat 4 = .ok (.ifCond .eq 30, 3) := by decide +kernel
theorem dX6_beat_7 : decode cX6_beat 7 = .ok (.iload_n 2, 1) := by decide +kernel
theorem dX6_beat_8 : decode cX6_beat 8 = .ok (.invokestatic 149, 3) := by decide +kernel
theorem dX6_beat_11 : decode cX6_beat 11 = .ok (.ifCond .eq 23, 3) := by decide +kernel
theorem dX6_beat_14 : decode cX6_beat 14 = .ok (.iload_n 3, 1) := by decide +kernel
theorem dX6_beat_15 : decode cX6_beat 15 = .ok (.invokestatic 94, 3) := by decide +kernel
theorem dX6_beat_18 : decode cX6_beat 18 = .ok (.ifCond .eq 16, 3) := by decide +kernel
theorem dX6_beat_21 : decode cX6_beat 21 = .ok (.iload 4, 2) := by decide +kernel
theorem dX6_beat_23 : decode cX6_beat 23 = .ok (.invokestatic 149, 3) := by decide +kernel
theorem dX6_beat_26 : decode cX6_beat 26 = .ok (.ifCond .eq 8, 3) := by decide +kernel
theorem dX6_beat_29 : decode cX6_beat 29 = .ok (.iload_n 1, 1) := by decide +kernel
theorem dX6_beat_30 : decode cX6_beat 30 = .ok (.iload_n 3, 1) := by decide +kernel
theorem dX6_beat_31 : decode cX6_beat 31 = .ok (.if_icmp .ne 5, 3) := by decide +kernel
theorem dX6_beat_34 : decode cX6_beat 34 = .ok (.iconst (-1), 1) := by decide +kernel
theorem dX6_beat_35 : decode cX6_beat 35 = .ok (.ireturn, 1) := by decide +kernel
theorem dX6_beat_36 : decode cX6_beat 36 = .ok (.aload_n 0, 1) := by decide +kernel
theorem dX6_beat_37 : decode cX6_beat 37 = .ok (.getfield 10, 3) := by decide +kernel
theorem dX6_beat_40 : decode cX6_beat 40 = .ok (.iload_n 1, 1) := by decide +kernel
theorem dX6_beat_41 : decode cX6_beat 41 = .ok (.iload_n 2, 1) := by decide +kernel
theorem dX6_beat_42 : decode cX6_beat 42 = .ok (.iload_n 3, 1) := by decide +kernel
theorem dX6_beat_43 : decode cX6_beat 43 = .ok (.iload 4, 2) := by decide +kernel
theorem dX6_beat_45 : decode cX6_beat 45 = .ok (.invokevirtual 191, 3) := by decide +kernel
theorem dX6_beat_48 : decode cX6_beat 48 = .ok (.istore 5, 2) := by decide +kernel
theorem dX6_beat_50 : decode cX6_beat 50 = .ok (.iload 5, 2) := by decide +kernel
theorem dX6_beat_52 : decode cX6_beat 52 = .ok (.ifCond .le 8, 3) := by decide +kernel
theorem dX6_beat_55 : decode cX6_beat 55 = .ok (.iload 5, 2) := by decide +kernel
theorem dX6_beat_57 : decode cX6_beat 57 = .ok (.goto 5, 3) := by decide +kernel
theorem dX6_beat_60 : decode cX6_beat 60 = .ok (.bipush (-4), 2) := by decide +kernel
theorem dX6_beat_62 : decode cX6_beat 62 = .ok (.ireturn, 1) := by decide +kernel
set_option maxRecDepth 20000 in
theorem ggX6_slowest_X6_isString : GoodIn wsX6_slowest wsX6_isString := goodIn_r _ [5, 6, 7, 4, 8] (by decide +kernel) (by decide +kernel)
set_option maxRecDepth 20000 in
theorem gX6_slowest_X6_isString : GoodIn wsX6_slowest (va_wsS RX6 94 yX6_isString wsX6_isString) := goodIn_app (goodIn_of _ (by decide +kernel)) ggX6_slowest_X6_isString
set_option maxRecDepth 20000 in
theorem ggX6_slowest_X6_isWithin : GoodIn wsX6_slowest wsX6_isWithin := goodIn_r _ [8] (by decide +kernel) (by decide +kernel)
set_option maxRecDepth 20000 in
theorem gX6_slowest_X6_isWithin : GoodIn wsX6_slowest (va_wsS RX6 30 yX6_isWithin wsX6_isWithin) := goodIn_app (goodIn_of _ (by decide +kernel)) ggX6_slowest_X6_isWithin
set_option maxRecDepth 20000 in
theorem ggX6_slowest_X4_slowestBeat : GoodIn wsX6_slowest wsX4_slowestBeat := goodIn_r _ [13, 14, 15, 16, 12, 17, 18, 19, 20, 21, 22, 23, 24, 25, 26, 27, 28, 29, 30, 31, 32, 33, 34, 35, 36, 37, 38, 39, 40, 41, 42, 43, 47, 48, 49, 50, 51, 52, 53, 54, 55, 56, 57, 58, 59] (by decide +kernel) (by decide +kernel)
set_option maxRecDepth 20000 in
theorem gX6_slowest_X4_slowestBeat : GoodIn wsX6_slowest (wsV RX6 195 RX4 yX4_slowestBeat wsX4_slowestBeat) := goodIn_app (goodIn_of _ (by decide +kernel)) ggX6_slowest_X4_slowestBeat
theorem dX6_slowest_0 : decode cX6_slowest 0 = .ok (.iload_n 1, 1) := by decide +kernel
theorem dX6_slowest_1 : decode cX6_slowest 1 = .ok (.invokestatic 94, 3) := by decide +kernel
theorem dX6_slowest_4 : decode cX6_slowest 4 = .ok (.ifCond .eq 24, 3) := by decide +kernel
theorem dX6_slowest_7 : decode cX6_slowest 7 = .ok (.iload_n 2, 1) := by decide +kernel
theorem dX6_slowest_8 : decode cX6_slowest 8 = .ok (.invokestatic 94, 3) := by decide +kernel
theorem dX6_slowest_11 : decode cX6_slowest 11 = .ok (.ifCond .eq 17, 3) := by decide +kernel
theorem dX6_slowest_14 : decode cX6_slowest 14 = .ok (.iload_n 1, 1) := by decide +kernel
theorem dX6_slowest_15 : decode cX6_slowest 15 = .ok (.iload_n 2, 1) := by decide +kernel
theorem dX6_slowest_16 : decode cX6_slowest 16 = .ok (.if_icmp .eq 12, 3) := by decide +kernel
theorem dX6_slowest_19 : decode cX6_slowest 19 = .ok (.iload_n 3, 1) := by decide +kernel
theorem dX6_slowest_20 : decode cX6_slowest 20 = .ok (.iconst 0, 1) := by decide +kernel
theorem dX6_slowest_21 : decode cX6_slowest 21 = .ok (.iconst 2, 1) := by decide +kernel
theorem dX6_slowest_22 : decode cX6_slowest 22 = .ok (.invokestatic 30, 3) := by decide +kernel
theorem dX6_slowest_25 : decode cX6_slowest 25 = .ok (.ifCond .ne 5, 3) := by decide +kernel
theorem dX6_slowest_28 : decode cX6_slowest 28 = .ok (.iconst (-1), 1) := by decide +kernel
theorem dX6_slowest_29 : decode cX6_slowest 29 = .ok (.ireturn, 1) := by decide +kernel
theorem dX6_slowest_30 : decode cX6_slowest 30 = .ok (.aload_n 0, 1) := by decide +kernel
theorem dX6_slowest_31 : decode cX6_slowest 31 = .ok (.getfield 10, 3) := by decide +kernel
theorem dX6_slowest_34 : decode cX6_slowest 34 = .ok (.iload_n 1, 1) := by decide +kernel
theorem dX6_slowest_35 : decode cX6_slowest 35 = .ok (.iload_n 2, 1) := by decide +kernel
theorem dX6_slowest_36 : decode cX6_slowest 36 = .ok (.iload_n 3, 1) := by decide +kernel
theorem dX6_slowest_37 : decode cX6_slowest 37 = .ok (.invokevirtual 195, 3) := by decide +kernel
theorem dX6_slowest_40 : decode cX6_slowest 40 = .ok (.ireturn, 1) := by decide +kernel
set_option maxRecDepth 20000 in
theorem ggX6_played_X6_isWithin : GoodIn wsX6_played wsX6_isWithin := goodIn_r _ [7] (by decide +kernel) (by decide +kernel)
set_option maxRecDepth 20000 in
theorem gX6_played_X6_isWithin : GoodIn wsX6_played (va_wsS RX6 30 yX6_isWithin wsX6_isWithin) := goodIn_app (goodIn_of _ (by decide +kernel)) ggX6_played_X6_isWithin
set_option maxRecDepth 20000 in
theorem ggX6_played_X2_stringOf : GoodIn wsX6_played wsX2_stringOf := goodIn_r _ [12, 13, 14, 15, 11, 16, 17, 18, 37, 38, 39] (by decide +kernel) (by decide +kernel)
set_option maxRecDepth 20000 in
theorem gX6_played_X2_stringOf : GoodIn wsX6_played (wsV RX6 207 RX2 yX2_stringOf wsX2_stringOf) := goodIn_app (goodIn_of _ (by decide +kernel)) ggX6_played_X2_stringOf
set_option maxRecDepth 20000 in
theorem ggX6_played_X2_fretOf : GoodIn wsX6_played wsX2_fretOf := goodIn_r _ [22, 13, 14, 15, 11, 16, 17, 18, 37, 38, 39] (by decide +kernel) (by decide +kernel)
set_option maxRecDepth 20000 in
theorem gX6_played_X2_fretOf : GoodIn wsX6_played (wsV RX6 210 RX2 yX2_fretOf wsX2_fretOf) := goodIn_app (goodIn_of _ (by decide +kernel)) ggX6_played_X2_fretOf
set_option maxRecDepth 20000 in
theorem ggX6_played_X2_timesOf : GoodIn wsX6_played wsX2_timesOf := goodIn_r _ [26, 27, 13, 14, 15, 11, 16, 17, 18, 37, 38, 39] (by decide +kernel) (by decide +kernel)
set_option maxRecDepth 20000 in
theorem gX6_played_X2_timesOf : GoodIn wsX6_played (wsV RX6 213 RX2 yX2_timesOf wsX2_timesOf) := goodIn_app (goodIn_of _ (by decide +kernel)) ggX6_played_X2_timesOf
theorem dX6_played_0 : decode cX6_played 0 = .ok (.iload_n 1, 1) := by decide +kernel
theorem dX6_played_1 : decode cX6_played 1 = .ok (.ifCond .lt 12, 3) := by decide +kernel
theorem dX6_played_4 : decode cX6_played 4 = .ok (.iload_n 2, 1) := by decide +kernel
theorem dX6_played_5 : decode cX6_played 5 = .ok (.iconst 0, 1) := by decide +kernel
theorem dX6_played_6 : decode cX6_played 6 = .ok (.iconst 2, 1) := by decide +kernel
theorem dX6_played_7 : decode cX6_played 7 = .ok (.invokestatic 30, 3) := by decide +kernel
theorem dX6_played_10 : decode cX6_played 10 = .ok (.ifCond .ne 5, 3) := by decide +kernel
theorem dX6_played_13 : decode cX6_played 13 = .ok (.iconst (-1), 1) := by decide +kernel
theorem dX6_played_14 : decode cX6_played 14 = .ok (.ireturn, 1) := by decide +kernel
theorem dX6_played_15 : decode cX6_played 15 = .ok (.iload_n 1, 1) := by decide +kernel
theorem dX6_played_16 : decode cX6_played 16 = .ok (.aload_n 0, 1) := by decide +kernel
theorem dX6_played_17 : decode cX6_played 17 = .ok (.getfield 10, 3) := by decide +kernel
theorem dX6_played_20 : decode cX6_played 20 = .ok (.getfield 198, 3) := by decide +kernel
theorem dX6_played_23 : decode cX6_played 23 = .ok (.getfield 202, 3) := by decide +kernel
theorem dX6_played_26 : decode cX6_played 26 = .ok (.if_icmp .lt 6, 3) := by decide +kernel
theorem dX6_played_29 : decode cX6_played 29 = .ok (.bipush (-4), 2) := by decide +kernel
theorem dX6_played_31 : decode cX6_played 31 = .ok (.ireturn, 1) := by decide +kernel
theorem dX6_played_32 : decode cX6_played 32 = .ok (.iload_n 2, 1) := by decide +kernel
theorem dX6_played_33 : decode cX6_played 33 = .ok (.lookupswitch 51 #[(0, 27), (1, 39)], 27) := by decide +kernel
theorem dX6_played_60 : decode cX6_played 60 = .ok (.aload_n 0, 1) := by decide +kernel
theorem dX6_played_61 : decode cX6_played 61 = .ok (.getfield 10, 3) := by decide +kernel
theorem dX6_played_64 : decode cX6_played 64 = .ok (.getfield 198, 3) := by decide +kernel
theorem dX6_played_67 : decode cX6_played 67 = .ok (.iload_n 1, 1) := by decide +kernel
theorem dX6_played_68 : decode cX6_played 68 = .ok (.invokevirtual 207, 3) := by decide +kernel
theorem dX6_played_71 : decode cX6_played 71 = .ok (.ireturn, 1) := by decide +kernel
theorem dX6_played_72 : decode cX6_played 72 = .ok (.aload_n 0, 1) := by decide +kernel
theorem dX6_played_73 : decode cX6_played 73 = .ok (.getfield 10, 3) := by decide +kernel
theorem dX6_played_76 : decode cX6_played 76 = .ok (.getfield 198, 3) := by decide +kernel
theorem dX6_played_79 : decode cX6_played 79 = .ok (.iload_n 1, 1) := by decide +kernel
theorem dX6_played_80 : decode cX6_played 80 = .ok (.invokevirtual 210, 3) := by decide +kernel
theorem dX6_played_83 : decode cX6_played 83 = .ok (.ireturn, 1) := by decide +kernel
theorem dX6_played_84 : decode cX6_played 84 = .ok (.aload_n 0, 1) := by decide +kernel
theorem dX6_played_85 : decode cX6_played 85 = .ok (.getfield 10, 3) := by decide +kernel
theorem dX6_played_88 : decode cX6_played 88 = .ok (.getfield 198, 3) := by decide +kernel
theorem dX6_played_91 : decode cX6_played 91 = .ok (.iload_n 1, 1) := by decide +kernel
theorem dX6_played_92 : decode cX6_played 92 = .ok (.invokevirtual 213, 3) := by decide +kernel
theorem dX6_played_95 : decode cX6_played 95 = .ok (.ireturn, 1) := by decide +kernel
set_option maxRecDepth 20000 in
theorem ggX6_count_X4_heardInAll : GoodIn wsX6_count wsX4_heardInAll := goodIn_r _ [18, 19, 20, 21, 17, 22, 23, 24, 25, 26, 27, 28, 29, 30, 31, 32, 33, 34, 35, 36, 37, 38, 39, 40, 41, 42, 43, 44, 45, 64, 65, 66, 67, 68, 69, 89, 90, 91, 92, 93, 94, 95] (by decide +kernel) (by decide +kernel)
set_option maxRecDepth 20000 in
theorem gX6_count_X4_heardInAll : GoodIn wsX6_count (wsV RX6 184 RX4 yX4_heardInAll wsX4_heardInAll) := goodIn_app (goodIn_of _ (by decide +kernel)) ggX6_count_X4_heardInAll
set_option maxRecDepth 20000 in
theorem ggX6_count_X5_buzzing : GoodIn wsX6_count wsX5_buzzing := goodIn_r _ [49, 50, 51, 52, 31, 53, 54, 55, 89, 90, 91, 92, 93, 94, 95] (by decide +kernel) (by decide +kernel)
set_option maxRecDepth 20000 in
theorem gX6_count_X5_buzzing : GoodIn wsX6_count (wsV RX6 216 RX5 yX5_buzzing wsX5_buzzing) := goodIn_app (goodIn_of _ (by decide +kernel)) ggX6_count_X5_buzzing
set_option maxRecDepth 20000 in
theorem ggX6_count_X5_plucksInAll : GoodIn wsX6_count wsX5_plucksInAll := goodIn_r _ [59, 60, 89, 90, 91, 92, 93, 94, 95] (by decide +kernel) (by decide +kernel)
set_option maxRecDepth 20000 in
theorem gX6_count_X5_plucksInAll : GoodIn wsX6_count (wsV RX6 219 RX5 yX5_plucksInAll wsX5_plucksInAll) := goodIn_app (goodIn_of _ (by decide +kernel)) ggX6_count_X5_plucksInAll
theorem dX6_count_0 : decode cX6_count 0 = .ok (.iload_n 1, 1) := by decide +kernel
theorem dX6_count_1 : decode cX6_count 1 = .ok (.tableswitch 168 0 13 #[71, 82, 90, 98, 109, 120, 131, 139, 139, 139, 139, 139, 152, 160], 71) := by decide +kernel
theorem dX6_count_72 : decode cX6_count 72 = .ok (.aload_n 0, 1) := by decide +kernel
theorem dX6_count_73 : decode cX6_count 73 = .ok (.getfield 10, 3) := by decide +kernel
theorem dX6_count_76 : decode cX6_count 76 = .ok (.getfield 34, 3) := by decide +kernel
theorem dX6_count_79 : decode cX6_count 79 = .ok (.getfield 44, 3) := by decide +kernel
theorem dX6_count_82 : decode cX6_count 82 = .ok (.ireturn, 1) := by decide +kernel
theorem dX6_count_83 : decode cX6_count 83 = .ok (.aload_n 0, 1) := by decide +kernel
theorem dX6_count_84 : decode cX6_count 84 = .ok (.getfield 10, 3) := by decide +kernel
theorem dX6_count_87 : decode cX6_count 87 = .ok (.getfield 177, 3) := by decide +kernel
theorem dX6_count_90 : decode cX6_count 90 = .ok (.ireturn, 1) := by decide +kernel
theorem dX6_count_91 : decode cX6_count 91 = .ok (.aload_n 0, 1) := by decide +kernel
theorem dX6_count_92 : decode cX6_count 92 = .ok (.getfield 10, 3) := by decide +kernel
theorem dX6_count_95 : decode cX6_count 95 = .ok (.invokevirtual 184, 3) := by decide +kernel
theorem dX6_count_98 : decode cX6_count 98 = .ok (.ireturn, 1) := by decide +kernel
theorem dX6_count_99 : decode cX6_count 99 = .ok (.aload_n 0, 1) := by decide +kernel
theorem dX6_count_100 : decode cX6_count 100 = .ok (.getfield 10, 3) := by decide +kernel
theorem dX6_count_103 : decode cX6_count 103 = .ok (.getfield 76, 3) := by decide +kernel
theorem dX6_count_106 : decode cX6_count 106 = .ok (.invokevirtual 216, 3) := by decide +kernel
theorem dX6_count_109 : decode cX6_count 109 = .ok (.ireturn, 1) := by decide +kernel
theorem dX6_count_110 : decode cX6_count 110 = .ok (.aload_n 0, 1) := by decide +kernel
theorem dX6_count_111 : decode cX6_count 111 = .ok (.getfield 10, 3) := by decide +kernel
theorem dX6_count_114 : decode cX6_count 114 = .ok (.getfield 198, 3) := by decide +kernel
theorem dX6_count_117 : decode cX6_count 117 = .ok (.getfield 202, 3) := by decide +kernel
theorem dX6_count_120 : decode cX6_count 120 = .ok (.ireturn, 1) := by decide +kernel
theorem dX6_count_121 : decode cX6_count 121 = .ok (.aload_n 0, 1) := by decide +kernel
theorem dX6_count_122 : decode cX6_count 122 = .ok (.getfield 10, 3) := by decide +kernel
theorem dX6_count_125 : decode cX6_count 125 = .ok (.getfield 76, 3) := by decide +kernel
theorem dX6_count_128 : decode cX6_count 128 = .ok (.invokevirtual 219, 3) := by decide +kernel
theorem dX6_count_131 : decode cX6_count 131 = .ok (.ireturn, 1) := by decide +kernel
theorem dX6_count_132 : decode cX6_count 132 = .ok (.aload_n 0, 1) := by decide +kernel
theorem dX6_count_133 : decode cX6_count 133 = .ok (.getfield 10, 3) := by decide +kernel
theorem dX6_count_136 : decode cX6_count 136 = .ok (.getfield 222, 3) := by decide +kernel
theorem dX6_count_139 : decode cX6_count 139 = .ok (.ireturn, 1) := by decide +kernel
theorem dX6_count_140 : decode cX6_count 140 = .ok (.aload_n 0, 1) := by decide +kernel
theorem dX6_count_141 : decode cX6_count 141 = .ok (.getfield 10, 3) := by decide +kernel
theorem dX6_count_144 : decode cX6_count 144 = .ok (.getfield 174, 3) := by decide +kernel
theorem dX6_count_147 : decode cX6_count 147 = .ok (.iload_n 1, 1) := by decide +kernel
theorem dX6_count_148 : decode cX6_count 148 = .ok (.bipush 7, 2) := by decide +kernel
theorem dX6_count_150 : decode cX6_count 150 = .ok (.isub, 1) := by decide +kernel
theorem dX6_count_151 : decode cX6_count 151 = .ok (.iaload, 1) := by decide +kernel
theorem dX6_count_152 : decode cX6_count 152 = .ok (.ireturn, 1) := by decide +kernel
theorem dX6_count_153 : decode cX6_count 153 = .ok (.aload_n 0, 1) := by decide +kernel
theorem dX6_count_154 : decode cX6_count 154 = .ok (.getfield 19, 3) := by decide +kernel
theorem dX6_count_157 : decode cX6_count 157 = .ok (.getfield 225, 3) := by decide +kernel
theorem dX6_count_160 : decode cX6_count 160 = .ok (.ireturn, 1) := by decide +kernel
theorem dX6_count_161 : decode cX6_count 161 = .ok (.aload_n 0, 1) := by decide +kernel
theorem dX6_count_162 : decode cX6_count 162 = .ok (.getfield 26, 3) := by decide +kernel
theorem dX6_count_165 : decode cX6_count 165 = .ok (.getfield 226, 3) := by decide +kernel
theorem dX6_count_168 : decode cX6_count 168 = .ok (.ireturn, 1) := by decide +kernel
theorem dX6_count_169 : decode cX6_count 169 = .ok (.iconst (-1), 1) := by decide +kernel
theorem dX6_count_170 : decode cX6_count 170 = .ok (.ireturn, 1) := by decide +kernel
set_option maxRecDepth 20000 in
theorem ggX6_undo_X0_giveBack : GoodIn wsX6_undo wsX0_giveBack := goodIn_r _ [8, 9, 10, 11, 12, 7, 13, 14, 15, 16, 17, 18, 19, 20, 21, 22, 23, 24, 25, 26, 27, 28, 29, 30, 31, 32, 33, 34, 35, 36, 37, 38, 39, 40, 41, 42, 43, 44, 45, 46, 47, 48, 49, 50, 51, 52, 53, 54, 55, 56, 57, 58, 59, 60, 61, 62, 66, 67, 68, 69, 70, 71, 72, 73, 74, 75, 76, 77, 78, 79, 80, 81, 82, 83, 84, 85, 86, 87, 88] (by decide +kernel) (by decide +kernel)
set_option maxRecDepth 20000 in
theorem gX6_undo_X0_giveBack : GoodIn wsX6_undo (wsV RX6 229 RX0 yX0_giveBack wsX0_giveBack) := goodIn_app (goodIn_of _ (by decide +kernel)) ggX6_undo_X0_giveBack
theorem dX6_undo_0 : decode cX6_undo 0 = .ok (.aload_n 0, 1) := by decide +kernel
theorem dX6_undo_1 : decode cX6_undo 1 = .ok (.getfield 19, 3) := by decide +kernel
theorem dX6_undo_4 : decode cX6_undo 4 = .ok (.getfield 225, 3) := by decide +kernel
theorem dX6_undo_7 : decode cX6_undo 7 = .ok (.iconst 1, 1) := by decide +kernel
theorem dX6_undo_8 : decode cX6_undo 8 = .ok (.if_icmp .ge 6, 3) := by decide +kernel
theorem dX6_undo_11 : decode cX6_undo 11 = .ok (.bipush (-2), 2) := by decide +kernel
theorem dX6_undo_13 : decode cX6_undo 13 = .ok (.ireturn, 1) := by decide +kernel
theorem dX6_undo_14 : decode cX6_undo 14 = .ok (.aload_n 0, 1) := by decide +kernel
theorem dX6_undo_15 : decode cX6_undo 15 = .ok (.getfield 19, 3) := by decide +kernel
theorem dX6_undo_18 : decode cX6_undo 18 = .ok (.aload_n 0, 1) := by decide +kernel
theorem dX6_undo_19 : decode cX6_undo 19 = .ok (.getfield 10, 3) := by decide +kernel
theorem dX6_undo_22 : decode cX6_undo 22 = .ok (.invokevirtual 229, 3) := by decide +kernel
theorem dX6_undo_25 : decode cX6_undo 25 = .ok (.aload_n 0, 1) := by decide +kernel
theorem dX6_undo_26 : decode cX6_undo 26 = .ok (.getfield 19, 3) := by decide +kernel
theorem dX6_undo_29 : decode cX6_undo 29 = .ok (.getfield 225, 3) := by decide +kernel
theorem dX6_undo_32 : decode cX6_undo 32 = .ok (.ireturn, 1) := by decide +kernel
set_option maxRecDepth 20000 in
theorem ggX6_type_X6_isWithin : GoodIn wsX6_type wsX6_isWithin := goodIn_r _ [6] (by decide +kernel) (by decide +kernel)
set_option maxRecDepth 20000 in
theorem gX6_type_X6_isWithin : GoodIn wsX6_type (va_wsS RX6 30 yX6_isWithin wsX6_isWithin) := goodIn_app (goodIn_of _ (by decide +kernel)) ggX6_type_X6_isWithin
set_option maxRecDepth 20000 in
theorem ggX6_type_X3_append : GoodIn wsX6_type wsX3_append := goodIn_r _ [11, 12, 13, 17, 18, 19, 20, 21, 22, 23, 24, 25] (by decide +kernel) (by decide +kernel)
set_option maxRecDepth 20000 in
theorem gX6_type_X3_append : GoodIn wsX6_type (wsV RX6 232 RX3 yX3_append wsX3_append) := goodIn_app (goodIn_of _ (by decide +kernel)) ggX6_type_X3_append
theorem dX6_type_0 : decode cX6_type 0 = .ok (.iload_n 1, 1) := by decide +kernel
theorem dX6_type_1 : decode cX6_type 1 = .ok (.bipush 32, 2) := by decide +kernel
theorem dX6_type_3 : decode cX6_type 3 = .ok (.bipush 126, 2) := by decide +kernel
theorem dX6_type_5 : decode cX6_type 5 = .ok (.invokestatic 30, 3) := by decide +kernel
theorem dX6_type_8 : decode cX6_type 8 = .ok (.ifCond .ne 5, 3) := by decide +kernel
theorem dX6_type_11 : decode cX6_type 11 = .ok (.iconst (-1), 1) := by decide +kernel
theorem dX6_type_12 : decode cX6_type 12 = .ok (.ireturn, 1) := by decide +kernel
theorem dX6_type_13 : decode cX6_type 13 = .ok (.aload_n 0, 1) := by decide +kernel
theorem dX6_type_14 : decode cX6_type 14 = .ok (.getfield 26, 3) := by decide +kernel
theorem dX6_type_17 : decode cX6_type 17 = .ok (.getfield 226, 3) := by decide +kernel
theorem dX6_type_20 : decode cX6_type 20 = .ok (.bipush 80, 2) := by decide +kernel
theorem dX6_type_22 : decode cX6_type 22 = .ok (.if_icmp .lt 6, 3) := by decide +kernel
theorem dX6_type_25 : decode cX6_type 25 = .ok (.bipush (-3), 2) := by decide +kernel
theorem dX6_type_27 : decode cX6_type 27 = .ok (.ireturn, 1) := by decide +kernel
theorem dX6_type_28 : decode cX6_type 28 = .ok (.aload_n 0, 1) := by decide +kernel
theorem dX6_type_29 : decode cX6_type 29 = .ok (.getfield 26, 3) := by decide +kernel
theorem dX6_type_32 : decode cX6_type 32 = .ok (.iload_n 1, 1) := by decide +kernel
theorem dX6_type_33 : decode cX6_type 33 = .ok (.i2c, 1) := by decide +kernel
theorem dX6_type_34 : decode cX6_type 34 = .ok (.invokevirtual 232, 3) := by decide +kernel
theorem dX6_type_37 : decode cX6_type 37 = .ok (.aload_n 0, 1) := by decide +kernel
theorem dX6_type_38 : decode cX6_type 38 = .ok (.getfield 26, 3) := by decide +kernel
theorem dX6_type_41 : decode cX6_type 41 = .ok (.getfield 226, 3) := by decide +kernel
theorem dX6_type_44 : decode cX6_type 44 = .ok (.ireturn, 1) := by decide +kernel
theorem dX6_clearText_0 : decode cX6_clearText 0 = .ok (.aload_n 0, 1) := by decide +kernel
theorem dX6_clearText_1 : decode cX6_clearText 1 = .ok (.getfield 26, 3) := by decide +kernel
theorem dX6_clearText_4 : decode cX6_clearText 4 = .ok (.getfield 226, 3) := by decide +kernel
theorem dX6_clearText_7 : decode cX6_clearText 7 = .ok (.istore_n 1, 1) := by decide +kernel
theorem dX6_clearText_8 : decode cX6_clearText 8 = .ok (.aload_n 0, 1) := by decide +kernel
theorem dX6_clearText_9 : decode cX6_clearText 9 = .ok (.getfield 26, 3) := by decide +kernel
theorem dX6_clearText_12 : decode cX6_clearText 12 = .ok (.iconst 0, 1) := by decide +kernel
theorem dX6_clearText_13 : decode cX6_clearText 13 = .ok (.putfield 226, 3) := by decide +kernel
theorem dX6_clearText_16 : decode cX6_clearText 16 = .ok (.iload_n 1, 1) := by decide +kernel
theorem dX6_clearText_17 : decode cX6_clearText 17 = .ok (.ireturn, 1) := by decide +kernel
set_option maxRecDepth 20000 in
theorem ggX6_fault_X6_isWithin : GoodIn wsX6_fault wsX6_isWithin := goodIn_r _ [10] (by decide +kernel) (by decide +kernel)
set_option maxRecDepth 20000 in
theorem gX6_fault_X6_isWithin : GoodIn wsX6_fault (va_wsS RX6 30 yX6_isWithin wsX6_isWithin) := goodIn_app (goodIn_of _ (by decide +kernel)) ggX6_fault_X6_isWithin
set_option maxRecDepth 20000 in
theorem ggX6_fault_X3_findFault : GoodIn wsX6_fault wsX3_findFault := goodIn_r _ [15, 16, 17, 18, 19, 20, 21, 22, 14, 23, 24, 25, 26, 27, 28, 29, 30, 31, 32, 33, 34, 35, 36, 37, 38, 39, 40, 41, 42, 9, 43, 7, 8, 10, 44, 45, 46, 47, 61, 62, 63, 64, 65, 66, 67, 68, 69] (by decide +kernel) (by decide +kernel)
set_option maxRecDepth 20000 in
theorem gX6_fault_X3_findFault : GoodIn wsX6_fault (wsV RX6 236 RX3 yX3_findFault wsX3_findFault) := goodIn_app (goodIn_of _ (by decide +kernel)) ggX6_fault_X3_findFault
theorem dX6_fault_0 : decode cX6_fault 0 = .ok (.iload_n 1, 1) := by decide +kernel
theorem dX6_fault_1 : decode cX6_fault 1 = .ok (.iconst 0, 1) := by decide +kernel
theorem dX6_fault_2 : decode cX6_fault 2 = .ok (.iconst 1, 1) := by decide +kernel
theorem dX6_fault_3 : decode cX6_fault 3 = .ok (.invokestatic 30, 3) := by decide +kernel
theorem dX6_fault_6 : decode cX6_fault 6 = .ok (.ifCond .ne 5, 3) := by decide +kernel
theorem dX6_fault_9 : decode cX6_fault 9 = .ok (.iconst (-1), 1) := by decide +kernel
theorem dX6_fault_10 : decode cX6_fault 10 = .ok (.ireturn, 1) := by decide +kernel
theorem dX6_fault_11 : decode cX6_fault 11 = .ok (.aload_n 0, 1) := by decide +kernel
theorem dX6_fault_12 : decode cX6_fault 12 = .ok (.getfield 26, 3) := by decide +kernel
theorem dX6_fault_15 : decode cX6_fault 15 = .ok (.aload_n 0, 1) := by decide +kernel
theorem dX6_fault_16 : decode cX6_fault 16 = .ok (.getfield 10, 3) := by decide +kernel
theorem dX6_fault_19 : decode cX6_fault 19 = .ok (.getfield 34, 3) := by decide +kernel
theorem dX6_fault_22 : decode cX6_fault 22 = .ok (.getfield 44, 3) := by decide +kernel
theorem dX6_fault_25 : decode cX6_fault 25 = .ok (.aload_n 0, 1) := by decide +kernel
theorem dX6_fault_26 : decode cX6_fault 26 = .ok (.getfield 10, 3) := by decide +kernel
theorem dX6_fault_29 : decode cX6_fault 29 = .ok (.getfield 177, 3) := by decide +kernel
theorem dX6_fault_32 : decode cX6_fault 32 = .ok (.invokevirtual 236, 3) := by decide +kernel
theorem dX6_fault_35 : decode cX6_fault 35 = .ok (.istore_n 2, 1) := by decide +kernel
theorem dX6_fault_36 : decode cX6_fault 36 = .ok (.iload_n 2, 1) := by decide +kernel
theorem dX6_fault_37 : decode cX6_fault 37 = .ok (.ifCond .ne 6, 3) := by decide +kernel
theorem dX6_fault_40 : decode cX6_fault 40 = .ok (.bipush (-4), 2) := by decide +kernel
theorem dX6_fault_42 : decode cX6_fault 42 = .ok (.ireturn, 1) := by decide +kernel
theorem dX6_fault_43 : decode cX6_fault 43 = .ok (.iload_n 1, 1) := by decide +kernel
theorem dX6_fault_44 : decode cX6_fault 44 = .ok (.ifCond .ne 13, 3) := by decide +kernel
theorem dX6_fault_47 : decode cX6_fault 47 = .ok (.aload_n 0, 1) := by decide +kernel
theorem dX6_fault_48 : decode cX6_fault 48 = .ok (.getfield 26, 3) := by decide +kernel
theorem dX6_fault_51 : decode cX6_fault 51 = .ok (.getfield 239, 3) := by decide +kernel
theorem dX6_fault_54 : decode cX6_fault 54 = .ok (.goto 4, 3) := by decide +kernel
theorem dX6_fault_57 : decode cX6_fault 57 = .ok (.iload_n 2, 1) := by decide +kernel
theorem dX6_fault_58 : decode cX6_fault 58 = .ok (.ireturn, 1) := by decide +kernel
set_option maxRecDepth 20000 in
theorem ggX6_play_X3_findFault : GoodIn wsX6_play wsX3_findFault := goodIn_r _ [16, 17, 18, 19, 20, 21, 22, 23, 15, 24, 25, 26, 27, 28, 29, 30, 31, 32, 33, 34, 35, 36, 37, 38, 39, 40, 41, 42, 43, 44, 45, 46, 47, 48, 49, 50, 51, 52, 228, 229, 230, 231, 232, 233, 234, 235, 236] (by decide +kernel) (by decide +kernel)
set_option maxRecDepth 20000 in
theorem gX6_play_X3_findFault : GoodIn wsX6_play (wsV RX6 236 RX3 yX3_findFault wsX3_findFault) := goodIn_app (goodIn_of _ (by decide +kernel)) ggX6_play_X3_findFault
set_option maxRecDepth 20000 in
theorem ggX6_play_X0_keep : GoodIn wsX6_play wsX0_keep := goodIn_r _ [57, 58, 59, 60, 61, 62, 56, 63, 64, 65, 66, 67, 68, 69, 70, 71, 72, 73, 74, 75, 76, 77, 78, 79, 80, 81, 82, 83, 84, 85, 86, 87, 88, 89, 90, 91, 92, 93, 94, 95, 96, 97, 98, 99, 100, 101, 102, 103, 104, 105, 106, 107, 108, 109, 110, 111, 237, 238, 239, 218, 219, 220, 221, 222, 223, 224, 225, 226, 227, 240, 241, 242, 243, 244, 245, 246, 247, 248, 249] (by decide +kernel) (by decide +kernel)
set_option maxRecDepth 20000 in
theorem gX6_play_X0_keep : GoodIn wsX6_play (wsV RX6 48 RX0 yX0_keep wsX0_keep) := goodIn_app (goodIn_of _ (by decide +kernel)) ggX6_play_X0_keep
set_option maxRecDepth 20000 in
theorem ggX6_play_X3_readNote : GoodIn wsX6_play wsX3_readNote := goodIn_r _ [32, 20, 33, 25, 26, 27, 19, 34, 35, 36, 15, 37, 38, 39, 40, 41, 17, 42, 43, 44, 45, 46, 47, 48, 49, 50, 51, 52, 228, 229, 230, 231, 232, 233, 234, 235, 236] (by decide +kernel) (by decide +kernel)
set_option maxRecDepth 20000 in
theorem gX6_play_X3_readNote : GoodIn wsX6_play (wsV RX6 242 RX3 yX3_readNote wsX3_readNote) := goodIn_app (goodIn_of _ (by decide +kernel)) ggX6_play_X3_readNote
set_option maxRecDepth 20000 in
theorem ggX6_play_X4_pressAt : GoodIn wsX6_play wsX4_pressAt := goodIn_r _ [116, 71, 117, 118, 119, 120, 68, 121, 70, 122, 123, 124, 83, 125, 85, 126, 127, 128, 129, 47, 44, 48, 130, 131, 132, 133, 88, 134, 135, 136, 137, 86, 138, 139, 140, 141, 142, 143, 144, 145, 146, 147, 148, 149, 93, 150, 101, 100, 151, 152, 153, 154, 155, 156, 157, 158, 102, 218, 219, 220, 221, 222, 223, 240, 241, 242, 243, 244, 245, 246, 224, 225, 226, 227] (by decide +kernel) (by decide +kernel)
set_option maxRecDepth 20000 in
theorem gX6_play_X4_pressAt : GoodIn wsX6_play (wsV RX6 105 RX4 yX4_pressAt wsX4_pressAt) := goodIn_app (goodIn_of _ (by decide +kernel)) ggX6_play_X4_pressAt
set_option maxRecDepth 20000 in
theorem ggX6_play_X4_pluckAt : GoodIn wsX6_play wsX4_pluckAt := goodIn_r _ [162, 71, 117, 163, 164, 72, 79, 70, 73, 165, 166, 167, 93, 168, 169, 170, 171, 172, 173, 174, 175, 176, 177, 101, 178, 179, 180, 181, 182, 183, 144, 184, 185, 186, 187, 188, 102, 155, 156, 157, 158, 189, 190, 191, 106, 192, 111, 108, 109, 193, 194, 195, 83, 196, 89, 88, 197, 198, 199, 200, 126, 127, 128, 129, 85, 47, 44, 48, 118, 119, 120, 68, 121, 122, 123, 124, 125, 130, 131, 132, 133, 134, 135, 136, 137, 86, 138, 139, 140, 141, 142, 143, 145, 146, 147, 148, 149, 150, 100, 151, 152, 153, 154, 218, 219, 220, 221, 222, 223, 240, 241, 242, 243, 244, 245, 246, 247, 248, 249, 224, 225, 226, 227] (by decide +kernel) (by decide +kernel)
set_option maxRecDepth 20000 in
theorem gX6_play_X4_pluckAt : GoodIn wsX6_play (wsV RX6 120 RX4 yX4_pluckAt wsX4_pluckAt) := goodIn_app (goodIn_of _ (by decide +kernel)) ggX6_play_X4_pluckAt
set_option maxRecDepth 20000 in
theorem ggX6_play_X4_letGoBy : GoodIn wsX6_play wsX4_letGoBy := goodIn_r _ [204, 71, 78, 205, 206, 207, 93, 208, 98, 101, 174, 175, 176, 177, 170, 171, 172, 173, 178, 179, 180, 181, 182, 183, 144, 184, 209, 186, 187, 188, 102, 210, 211, 212, 68, 213, 73, 214, 156, 157, 158, 218, 219, 220, 221, 222, 223, 240, 241, 242, 243, 244, 245, 246] (by decide +kernel) (by decide +kernel)
set_option maxRecDepth 20000 in
theorem gX6_play_X4_letGoBy : GoodIn wsX6_play (wsV RX6 181 RX4 yX4_letGoBy wsX4_letGoBy) := goodIn_app (goodIn_of _ (by decide +kernel)) ggX6_play_X4_letGoBy
theorem dX6_play_0 : decode cX6_play 0 = .ok (.aload_n 0, 1) := by decide +kernel
theorem dX6_play_1 : decode cX6_play 1 = .ok (.getfield 26, 3) := by decide +kernel
theorem dX6_play_4 : decode cX6_play 4 = .ok (.aload_n 0, 1) := by decide +kernel
theorem dX6_play_5 : decode cX6_play 5 = .ok (.getfield 10, 3) := by decide +kernel
theorem dX6_play_8 : decode cX6_play 8 = .ok (.getfield 34, 3) := by decide +kernel
theorem dX6_play_11 : decode cX6_play 11 = .ok (.getfield 44, 3) := by decide +kernel
theorem dX6_play_14 : decode cX6_play 14 = .ok (.aload_n 0, 1) := by decide +kernel
theorem dX6_play_15 : decode cX6_play 15 = .ok (.getfield 10, 3) := by decide +kernel
theorem dX6_play_18 : decode cX6_play 18 = .ok (.getfield 177, 3) := by decide +kernel
theorem dX6_play_21 : decode cX6_play 21 = .ok (.invokevirtual 236, 3) := by decide +kernel
theorem dX6_play_24 : decode cX6_play 24 = .ok (.ifCond .eq 6, 3) := by decide +kernel
theorem dX6_play_27 : decode cX6_play 27 = .ok (.bipush (-2), 2) := by decide +kernel
theorem dX6_play_29 : decode cX6_play 29 = .ok (.ireturn, 1) := by decide +kernel
theorem dX6_play_30 : decode cX6_play 30 = .ok (.aload_n 0, 1) := by decide +kernel
theorem dX6_play_31 : decode cX6_play 31 = .ok (.getfield 19, 3) := by decide +kernel
theorem dX6_play_34 : decode cX6_play 34 = .ok (.aload_n 0, 1) := by decide +kernel
theorem dX6_play_35 : decode cX6_play 35 = .ok (.getfield 10, 3) := by decide +kernel
theorem dX6_play_38 : decode cX6_play 38 = .ok (.invokevirtual 48, 3) := by decide +kernel
theorem dX6_play_41 : decode cX6_play 41 = .ok (.iconst 0, 1) := by decide +kernel
theorem dX6_play_42 : decode cX6_play 42 = .ok (.istore_n 1, 1) := by decide +kernel
theorem dX6_play_43 : decode cX6_play 43 = .ok (.iconst 0, 1) := by decide +kernel
theorem dX6_play_44 : decode cX6_play 44 = .ok (.istore_n 2, 1) := by decide +kernel
theorem dX6_play_45 : decode cX6_play 45 = .ok (.iload_n 1, 1) := by decide +kernel
theorem dX6_play_46 : decode cX6_play 46 = .ok (.bipush 80, 2) := by decide +kernel
theorem dX6_play_48 : decode cX6_play 48 = .ok (.if_icmp .ge 87, 3) := by decide +kernel
theorem dX6_play_51 : decode cX6_play 51 = .ok (.aload_n 0, 1) := by decide +kernel
theorem dX6_play_52 : decode cX6_play 52 = .ok (.getfield 26, 3) := by decide +kernel
theorem dX6_play_55 : decode cX6_play 55 = .ok (.iload_n 2, 1) := by decide +kernel
theorem dX6_play_56 : decode cX6_play 56 = .ok (.invokevirtual 242, 3) := by decide +kernel
theorem dX6_play_59 : decode cX6_play 59 = .ok (.ifCond .eq 76, 3) := by decide +kernel
theorem dX6_play_62 : decode cX6_play 62 = .ok (.aload_n 0, 1) := by decide +kernel
theorem dX6_play_63 : decode cX6_play 63 = .ok (.getfield 10, 3) := by decide +kernel
theorem dX6_play_66 : decode cX6_play 66 = .ok (.aload_n 0, 1) := by decide +kernel
theorem dX6_play_67 : decode cX6_play 67 = .ok (.getfield 26, 3) := by decide +kernel
theorem dX6_play_70 : decode cX6_play 70 = .ok (.getfield 245, 3) := by decide +kernel
theorem dX6_play_73 : decode cX6_play 73 = .ok (.aload_n 0, 1) := by decide +kernel
theorem dX6_play_74 : decode cX6_play 74 = .ok (.getfield 26, 3) := by decide +kernel
theorem dX6_play_77 : decode cX6_play 77 = .ok (.getfield 248, 3) := by decide +kernel
theorem dX6_play_80 : decode cX6_play 80 = .ok (.invokevirtual 105, 3) := by decide +kernel
theorem dX6_play_83 : decode cX6_play 83 = .ok (.aload_n 0, 1) := by decide +kernel
theorem dX6_play_84 : decode cX6_play 84 = .ok (.getfield 10, 3) := by decide +kernel
theorem dX6_play_87 : decode cX6_play 87 = .ok (.aload_n 0, 1) := by decide +kernel
theorem dX6_play_88 : decode cX6_play 88 = .ok (.getfield 26, 3) := by decide +kernel
theorem dX6_play_91 : decode cX6_play 91 = .ok (.getfield 245, 3) := by decide +kernel
theorem dX6_play_94 : decode cX6_play 94 = .ok (.sipush 2460, 3) := by decide +kernel
theorem dX6_play_97 : decode cX6_play 97 = .ok (.aload_n 0, 1) := by decide +kernel
theorem dX6_play_98 : decode cX6_play 98 = .ok (.getfield 26, 3) := by decide +kernel
theorem dX6_play_101 : decode cX6_play 101 = .ok (.getfield 251, 3) := by decide +kernel
theorem dX6_play_104 : decode cX6_play 104 = .ok (.invokevirtual 120, 3) := by decide +kernel
theorem dX6_play_107 : decode cX6_play 107 = .ok (.aload_n 0, 1) := by decide +kernel
theorem dX6_play_108 : decode cX6_play 108 = .ok (.getfield 10, 3) := by decide +kernel
theorem dX6_play_111 : decode cX6_play 111 = .ok (.aload_n 0, 1) := by decide +kernel
theorem dX6_play_112 : decode cX6_play 112 = .ok (.getfield 26, 3) := by decide +kernel
theorem dX6_play_115 : decode cX6_play 115 = .ok (.getfield 254, 3) := by decide +kernel
theorem dX6_play_118 : decode cX6_play 118 = .ok (.invokevirtual 181, 3) := by decide +kernel
theorem dX6_play_121 : decode cX6_play 121 = .ok (.aload_n 0, 1) := by decide +kernel
theorem dX6_play_122 : decode cX6_play 122 = .ok (.getfield 26, 3) := by decide +kernel
theorem dX6_play_125 : decode cX6_play 125 = .ok (.getfield 255, 3) := by decide +kernel
theorem dX6_play_128 : decode cX6_play 128 = .ok (.istore_n 2, 1) := by decide +kernel
theorem dX6_play_129 : decode cX6_play 129 = .ok (.iinc 1 1, 3) := by decide +kernel
theorem dX6_play_132 : decode cX6_play 132 = .ok (.goto (-87), 3) := by decide +kernel
theorem dX6_play_135 : decode cX6_play 135 = .ok (.iload_n 1, 1) := by decide +kernel
theorem dX6_play_136 : decode cX6_play 136 = .ok (.ireturn, 1) := by decide +kernel
