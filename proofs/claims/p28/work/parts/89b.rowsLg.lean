set_option maxRecDepth 20000 in
theorem ggL_refusesStrings_X6_press_c0 : GoodIn wsL_refusesStrings [.code yX6_press cX6_press 3 (some .int)] := goodIn_r _ [80] (by decide +kernel) (by decide +kernel)
set_option maxRecDepth 20000 in
theorem ggL_refusesStrings_X6_press_c1 : GoodIn wsL_refusesStrings wsX6_press_r1 := goodIn_r _ [9, 81, 8, 10, 12, 13, 5, 14, 15, 16, 17, 82, 83, 84, 48, 85, 50, 18, 19, 20, 21, 22, 23, 24] (by decide +kernel) (by decide +kernel)
set_option maxRecDepth 20000 in
theorem ggL_refusesStrings_X6_press_c2 : GoodIn wsL_refusesStrings wsX6_press_r2 := goodIn_r _ [25, 26, 27, 28, 29, 30, 31, 32, 33, 34, 35, 36, 37, 38, 39, 40, 41, 42, 43, 44, 45, 46, 47, 49] (by decide +kernel) (by decide +kernel)
set_option maxRecDepth 20000 in
theorem ggL_refusesStrings_X6_press_c3 : GoodIn wsL_refusesStrings wsX6_press_r3 := goodIn_r _ [51, 52, 53, 54, 55, 56, 57, 58, 59, 60, 61, 62, 63, 64, 65, 66, 67, 68, 69, 70, 71, 72, 73, 74] (by decide +kernel) (by decide +kernel)
set_option maxRecDepth 20000 in
theorem ggL_refusesStrings_X6_press_c4 : GoodIn wsL_refusesStrings wsX6_press_r4 := goodIn_r _ [75, 76, 86, 87, 88, 89, 90, 91, 92, 93, 94, 95, 96, 97, 98, 99, 100, 101, 102, 103, 104, 105, 106, 107] (by decide +kernel) (by decide +kernel)
set_option maxRecDepth 20000 in
theorem ggL_refusesStrings_X6_press_c5 : GoodIn wsL_refusesStrings wsX6_press_r5 := goodIn_r _ [108, 109, 110, 111, 112, 113, 114, 115, 116, 117, 118, 119, 120, 121, 122, 123, 124, 125, 126, 127, 128, 129, 130, 131] (by decide +kernel) (by decide +kernel)
set_option maxRecDepth 20000 in
theorem ggL_refusesStrings_X6_press_c6 : GoodIn wsL_refusesStrings wsX6_press_r6 := goodIn_r _ [132, 133, 134, 135] (by decide +kernel) (by decide +kernel)
set_option maxRecDepth 20000 in
theorem ggL_refusesStrings_X6_press_c7 : GoodIn wsL_refusesStrings wsX60 := goodIn_r _ [297, 298, 299] (by decide +kernel) (by decide +kernel)
set_option maxRecDepth 20000 in
theorem ggL_refusesStrings_X6_press_c8 : GoodIn wsL_refusesStrings wsX40 := goodIn_r _ [300, 301, 302, 303, 304, 305] (by decide +kernel) (by decide +kernel)
set_option maxRecDepth 20000 in
theorem ggL_refusesStrings_X6_press_c9 : GoodIn wsL_refusesStrings wsX10 := goodIn_r _ [316, 317, 318, 319] (by decide +kernel) (by decide +kernel)
set_option maxRecDepth 20000 in
theorem ggL_refusesStrings_X6_press_c10 : GoodIn wsL_refusesStrings wsX00 := goodIn_r _ [313, 314, 315] (by decide +kernel) (by decide +kernel)
set_option maxRecDepth 20000 in
theorem ggL_refusesStrings_X6_press_c11 : GoodIn wsL_refusesStrings wsX50 := goodIn_r _ [306, 307, 308, 309, 310, 311, 312] (by decide +kernel) (by decide +kernel)
set_option maxRecDepth 20000 in
theorem ggL_refusesStrings_X6_press_c12 : GoodIn wsL_refusesStrings wsX20 := goodIn_r _ [320, 321, 322] (by decide +kernel) (by decide +kernel)
theorem ggL_refusesStrings_X6_press : GoodIn wsL_refusesStrings wsX6_press := by
  intro w h
  rcases List.mem_cons.mp h with h | h
  · exact ggL_refusesStrings_X6_press_c0 w (List.mem_singleton.mpr h)
  rcases List.mem_append.mp h with h | h
  case inr => exact ggL_refusesStrings_X6_press_c12 w h
  rcases List.mem_append.mp h with h | h
  case inr => exact ggL_refusesStrings_X6_press_c11 w h
  rcases List.mem_append.mp h with h | h
  case inr => exact ggL_refusesStrings_X6_press_c10 w h
  rcases List.mem_append.mp h with h | h
  case inr => exact ggL_refusesStrings_X6_press_c9 w h
  rcases List.mem_append.mp h with h | h
  case inr => exact ggL_refusesStrings_X6_press_c8 w h
  rcases List.mem_append.mp h with h | h
  case inr => exact ggL_refusesStrings_X6_press_c7 w h
  rcases List.mem_append.mp h with h | h
  · exact ggL_refusesStrings_X6_press_c1 w h
  rcases List.mem_append.mp h with h | h
  · exact ggL_refusesStrings_X6_press_c2 w h
  rcases List.mem_append.mp h with h | h
  · exact ggL_refusesStrings_X6_press_c3 w h
  rcases List.mem_append.mp h with h | h
  · exact ggL_refusesStrings_X6_press_c4 w h
  rcases List.mem_append.mp h with h | h
  · exact ggL_refusesStrings_X6_press_c5 w h
  exact ggL_refusesStrings_X6_press_c6 w h
set_option maxRecDepth 20000 in
theorem gL_refusesStrings_X6_press : GoodIn wsL_refusesStrings (wsV RL 42 RX6 yX6_press wsX6_press) := goodIn_app (goodIn_of _ (by decide +kernel)) ggL_refusesStrings_X6_press
set_option maxRecDepth 20000 in
theorem ggL_refusesStrings_X6_touch_c0 : GoodIn wsL_refusesStrings [.code yX6_touch cX6_touch 4 (some .int)] := goodIn_r _ [139] (by decide +kernel) (by decide +kernel)
set_option maxRecDepth 20000 in
theorem ggL_refusesStrings_X6_touch_c1 : GoodIn wsL_refusesStrings wsX6_touch_r1 := goodIn_r _ [8, 9, 10, 140, 12, 13, 5, 14, 15, 16, 17, 18, 19, 20, 21, 22, 23, 24, 25, 26, 27, 28, 29, 30] (by decide +kernel) (by decide +kernel)
set_option maxRecDepth 20000 in
theorem ggL_refusesStrings_X6_touch_c2 : GoodIn wsL_refusesStrings wsX6_touch_r2 := goodIn_r _ [31, 32, 33, 34, 35, 36, 37, 38, 39, 40, 41, 42, 43, 44, 45, 46, 47, 48, 49, 50, 51, 52, 53, 54] (by decide +kernel) (by decide +kernel)
set_option maxRecDepth 20000 in
theorem ggL_refusesStrings_X6_touch_c3 : GoodIn wsL_refusesStrings wsX6_touch_r3 := goodIn_r _ [55, 56, 57, 58, 59, 60, 61, 62, 63, 64, 65, 66, 67, 68, 69, 70, 71, 72, 73, 74, 75, 76] (by decide +kernel) (by decide +kernel)
set_option maxRecDepth 20000 in
theorem ggL_refusesStrings_X6_touch_c4 : GoodIn wsL_refusesStrings wsX60 := goodIn_r _ [297, 298, 299] (by decide +kernel) (by decide +kernel)
set_option maxRecDepth 20000 in
theorem ggL_refusesStrings_X6_touch_c5 : GoodIn wsL_refusesStrings wsX40 := goodIn_r _ [300, 301, 302, 303, 304, 305] (by decide +kernel) (by decide +kernel)
set_option maxRecDepth 20000 in
theorem ggL_refusesStrings_X6_touch_c6 : GoodIn wsL_refusesStrings wsX50 := goodIn_r _ [306, 307, 308, 309, 310, 311, 312] (by decide +kernel) (by decide +kernel)
set_option maxRecDepth 20000 in
theorem ggL_refusesStrings_X6_touch_c7 : GoodIn wsL_refusesStrings wsX00 := goodIn_r _ [313, 314, 315] (by decide +kernel) (by decide +kernel)
set_option maxRecDepth 20000 in
theorem ggL_refusesStrings_X6_touch_c8 : GoodIn wsL_refusesStrings wsX10 := goodIn_r _ [316, 317, 318, 319] (by decide +kernel) (by decide +kernel)
set_option maxRecDepth 20000 in
theorem ggL_refusesStrings_X6_touch_c9 : GoodIn wsL_refusesStrings wsX20 := goodIn_r _ [320, 321, 322] (by decide +kernel) (by decide +kernel)
theorem ggL_refusesStrings_X6_touch : GoodIn wsL_refusesStrings wsX6_touch := by
  intro w h
  rcases List.mem_cons.mp h with h | h
  · exact ggL_refusesStrings_X6_touch_c0 w (List.mem_singleton.mpr h)
  rcases List.mem_append.mp h with h | h
  case inr => exact ggL_refusesStrings_X6_touch_c9 w h
  rcases List.mem_append.mp h with h | h
  case inr => exact ggL_refusesStrings_X6_touch_c8 w h
  rcases List.mem_append.mp h with h | h
  case inr => exact ggL_refusesStrings_X6_touch_c7 w h
  rcases List.mem_append.mp h with h | h
  case inr => exact ggL_refusesStrings_X6_touch_c6 w h
  rcases List.mem_append.mp h with h | h
  case inr => exact ggL_refusesStrings_X6_touch_c5 w h
  rcases List.mem_append.mp h with h | h
  case inr => exact ggL_refusesStrings_X6_touch_c4 w h
  rcases List.mem_append.mp h with h | h
  · exact ggL_refusesStrings_X6_touch_c1 w h
  rcases List.mem_append.mp h with h | h
  · exact ggL_refusesStrings_X6_touch_c2 w h
  exact ggL_refusesStrings_X6_touch_c3 w h
set_option maxRecDepth 20000 in
theorem gL_refusesStrings_X6_touch : GoodIn wsL_refusesStrings (wsV RL 45 RX6 yX6_touch wsX6_touch) := goodIn_app (goodIn_of _ (by decide +kernel)) ggL_refusesStrings_X6_touch
set_option maxRecDepth 20000 in
theorem ggL_refusesStrings_X6_pluck_c0 : GoodIn wsL_refusesStrings [.code yX6_pluck cX6_pluck 4 (some .int)] := goodIn_r _ [144] (by decide +kernel) (by decide +kernel)
set_option maxRecDepth 20000 in
theorem ggL_refusesStrings_X6_pluck_c1 : GoodIn wsL_refusesStrings wsX6_pluck_r1 := goodIn_r _ [9, 10, 145, 8, 12, 13, 5, 14, 15, 16, 17, 146, 147, 148, 18, 19, 20, 21, 22, 23, 24, 25, 26, 27] (by decide +kernel) (by decide +kernel)
set_option maxRecDepth 20000 in
theorem ggL_refusesStrings_X6_pluck_c2 : GoodIn wsL_refusesStrings wsX6_pluck_r2 := goodIn_r _ [28, 29, 30, 31, 32, 33, 34, 35, 36, 37, 38, 39, 40, 41, 42, 43, 44, 45, 46, 47, 48, 49, 50, 51] (by decide +kernel) (by decide +kernel)
set_option maxRecDepth 20000 in
theorem ggL_refusesStrings_X6_pluck_c3 : GoodIn wsL_refusesStrings wsX6_pluck_r3 := goodIn_r _ [52, 53, 54, 55, 56, 57, 58, 59, 60, 61, 62, 63, 64, 65, 66, 67, 68, 69, 70, 71, 72, 73, 74, 75] (by decide +kernel) (by decide +kernel)
set_option maxRecDepth 20000 in
theorem ggL_refusesStrings_X6_pluck_c4 : GoodIn wsL_refusesStrings wsX6_pluck_r4 := goodIn_r _ [76, 149, 150, 151, 152, 90, 153, 154, 155, 156, 157, 158, 159, 160, 161, 162, 163, 164, 165, 166, 167, 168, 133, 134] (by decide +kernel) (by decide +kernel)
set_option maxRecDepth 20000 in
theorem ggL_refusesStrings_X6_pluck_c5 : GoodIn wsL_refusesStrings wsX6_pluck_r5 := goodIn_r _ [135, 169, 170, 117, 171, 172, 173, 174, 175, 128, 129, 130, 131, 176, 177, 178, 179, 180, 181, 182, 183, 184, 185, 186] (by decide +kernel) (by decide +kernel)
set_option maxRecDepth 20000 in
theorem ggL_refusesStrings_X6_pluck_c6 : GoodIn wsL_refusesStrings wsX6_pluck_r6 := goodIn_r _ [187, 99, 100, 101, 102, 91, 92, 93, 94, 95, 96, 97, 98, 103, 104, 105, 106, 107, 108, 109, 110, 111, 112, 113] (by decide +kernel) (by decide +kernel)
set_option maxRecDepth 20000 in
theorem ggL_refusesStrings_X6_pluck_c7 : GoodIn wsL_refusesStrings wsX6_pluck_r7 := goodIn_r _ [114, 115, 116, 118, 119, 120, 121, 122, 123, 124, 125, 126, 127, 188, 189, 190, 191, 192, 193, 194, 195, 196, 197, 198] (by decide +kernel) (by decide +kernel)
set_option maxRecDepth 20000 in
theorem ggL_refusesStrings_X6_pluck_c8 : GoodIn wsL_refusesStrings wsX6_pluck_r8 := goodIn_r _ [199, 200, 201, 202, 203, 204, 205, 206, 207] (by decide +kernel) (by decide +kernel)
set_option maxRecDepth 20000 in
theorem ggL_refusesStrings_X6_pluck_c9 : GoodIn wsL_refusesStrings wsX60 := goodIn_r _ [297, 298, 299] (by decide +kernel) (by decide +kernel)
set_option maxRecDepth 20000 in
theorem ggL_refusesStrings_X6_pluck_c10 : GoodIn wsL_refusesStrings wsX40 := goodIn_r _ [300, 301, 302, 303, 304, 305] (by decide +kernel) (by decide +kernel)
set_option maxRecDepth 20000 in
theorem ggL_refusesStrings_X6_pluck_c11 : GoodIn wsL_refusesStrings wsX50 := goodIn_r _ [306, 307, 308, 309, 310, 311, 312] (by decide +kernel) (by decide +kernel)
set_option maxRecDepth 20000 in
theorem ggL_refusesStrings_X6_pluck_c12 : GoodIn wsL_refusesStrings wsX00 := goodIn_r _ [313, 314, 315] (by decide +kernel) (by decide +kernel)
set_option maxRecDepth 20000 in
theorem ggL_refusesStrings_X6_pluck_c13 : GoodIn wsL_refusesStrings wsX10 := goodIn_r _ [316, 317, 318, 319] (by decide +kernel) (by decide +kernel)
set_option maxRecDepth 20000 in
theorem ggL_refusesStrings_X6_pluck_c14 : GoodIn wsL_refusesStrings wsX20 := goodIn_r _ [320, 321, 322] (by decide +kernel) (by decide +kernel)
theorem ggL_refusesStrings_X6_pluck : GoodIn wsL_refusesStrings wsX6_pluck := by
  intro w h
  rcases List.mem_cons.mp h with h | h
  · exact ggL_refusesStrings_X6_pluck_c0 w (List.mem_singleton.mpr h)
  rcases List.mem_append.mp h with h | h
  case inr => exact ggL_refusesStrings_X6_pluck_c14 w h
  rcases List.mem_append.mp h with h | h
  case inr => exact ggL_refusesStrings_X6_pluck_c13 w h
  rcases List.mem_append.mp h with h | h
  case inr => exact ggL_refusesStrings_X6_pluck_c12 w h
  rcases List.mem_append.mp h with h | h
  case inr => exact ggL_refusesStrings_X6_pluck_c11 w h
  rcases List.mem_append.mp h with h | h
  case inr => exact ggL_refusesStrings_X6_pluck_c10 w h
  rcases List.mem_append.mp h with h | h
  case inr => exact ggL_refusesStrings_X6_pluck_c9 w h
  rcases List.mem_append.mp h with h | h
  · exact ggL_refusesStrings_X6_pluck_c1 w h
  rcases List.mem_append.mp h with h | h
  · exact ggL_refusesStrings_X6_pluck_c2 w h
  rcases List.mem_append.mp h with h | h
  · exact ggL_refusesStrings_X6_pluck_c3 w h
  rcases List.mem_append.mp h with h | h
  · exact ggL_refusesStrings_X6_pluck_c4 w h
  rcases List.mem_append.mp h with h | h
  · exact ggL_refusesStrings_X6_pluck_c5 w h
  rcases List.mem_append.mp h with h | h
  · exact ggL_refusesStrings_X6_pluck_c6 w h
  rcases List.mem_append.mp h with h | h
  · exact ggL_refusesStrings_X6_pluck_c7 w h
  exact ggL_refusesStrings_X6_pluck_c8 w h
set_option maxRecDepth 20000 in
theorem gL_refusesStrings_X6_pluck : GoodIn wsL_refusesStrings (wsV RL 48 RX6 yX6_pluck wsX6_pluck) := goodIn_app (goodIn_of _ (by decide +kernel)) ggL_refusesStrings_X6_pluck
set_option maxRecDepth 20000 in
theorem ggL_refusesStrings_X6_damp_c0 : GoodIn wsL_refusesStrings [.code yX6_damp cX6_damp 3 (some .int)] := goodIn_r _ [211] (by decide +kernel) (by decide +kernel)
set_option maxRecDepth 20000 in
theorem ggL_refusesStrings_X6_damp_c1 : GoodIn wsL_refusesStrings wsX6_damp_r1 := goodIn_r _ [8, 9, 10, 12, 13, 5, 14, 15, 16, 17, 18, 19, 20, 21, 22, 23, 24, 25, 26, 27, 28, 29, 30, 31] (by decide +kernel) (by decide +kernel)
set_option maxRecDepth 20000 in
theorem ggL_refusesStrings_X6_damp_c2 : GoodIn wsL_refusesStrings wsX6_damp_r2 := goodIn_r _ [32, 33, 34, 35, 36, 37, 38, 39, 40, 41, 42, 43, 44, 45, 46, 47, 48, 49, 50, 51, 52, 53, 54, 55] (by decide +kernel) (by decide +kernel)
set_option maxRecDepth 20000 in
theorem ggL_refusesStrings_X6_damp_c3 : GoodIn wsL_refusesStrings wsX6_damp_r3 := goodIn_r _ [56, 57, 58, 59, 60, 61, 62, 63, 64, 65, 66, 67, 68, 69, 70, 71, 72, 73, 74, 75, 76, 188, 189, 190] (by decide +kernel) (by decide +kernel)
set_option maxRecDepth 20000 in
theorem ggL_refusesStrings_X6_damp_c4 : GoodIn wsL_refusesStrings wsX6_damp_r4 := goodIn_r _ [191, 192, 193, 194, 195, 196, 173, 174, 175, 197, 198, 199, 200, 201, 202, 203, 204, 205, 206, 207, 212, 125, 126, 127] (by decide +kernel) (by decide +kernel)
set_option maxRecDepth 20000 in
theorem ggL_refusesStrings_X6_damp_c5 : GoodIn wsL_refusesStrings wsX6_damp_r5 := goodIn_r _ [128, 129, 130, 131] (by decide +kernel) (by decide +kernel)
set_option maxRecDepth 20000 in
theorem ggL_refusesStrings_X6_damp_c6 : GoodIn wsL_refusesStrings wsX60 := goodIn_r _ [297, 298, 299] (by decide +kernel) (by decide +kernel)
set_option maxRecDepth 20000 in
theorem ggL_refusesStrings_X6_damp_c7 : GoodIn wsL_refusesStrings wsX40 := goodIn_r _ [300, 301, 302, 303, 304, 305] (by decide +kernel) (by decide +kernel)
set_option maxRecDepth 20000 in
theorem ggL_refusesStrings_X6_damp_c8 : GoodIn wsL_refusesStrings wsX00 := goodIn_r _ [313, 314, 315] (by decide +kernel) (by decide +kernel)
set_option maxRecDepth 20000 in
theorem ggL_refusesStrings_X6_damp_c9 : GoodIn wsL_refusesStrings wsX10 := goodIn_r _ [316, 317, 318, 319] (by decide +kernel) (by decide +kernel)
set_option maxRecDepth 20000 in
theorem ggL_refusesStrings_X6_damp_c10 : GoodIn wsL_refusesStrings wsX50 := goodIn_r _ [306, 307, 308, 309, 310, 311, 312] (by decide +kernel) (by decide +kernel)
set_option maxRecDepth 20000 in
theorem ggL_refusesStrings_X6_damp_c11 : GoodIn wsL_refusesStrings wsX20 := goodIn_r _ [320, 321, 322] (by decide +kernel) (by decide +kernel)
theorem ggL_refusesStrings_X6_damp : GoodIn wsL_refusesStrings wsX6_damp := by
  intro w h
  rcases List.mem_cons.mp h with h | h
  · exact ggL_refusesStrings_X6_damp_c0 w (List.mem_singleton.mpr h)
  rcases List.mem_append.mp h with h | h
  case inr => exact ggL_refusesStrings_X6_damp_c11 w h
  rcases List.mem_append.mp h with h | h
  case inr => exact ggL_refusesStrings_X6_damp_c10 w h
  rcases List.mem_append.mp h with h | h
  case inr => exact ggL_refusesStrings_X6_damp_c9 w h
  rcases List.mem_append.mp h with h | h
  case inr => exact ggL_refusesStrings_X6_damp_c8 w h
  rcases List.mem_append.mp h with h | h
  case inr => exact ggL_refusesStrings_X6_damp_c7 w h
  rcases List.mem_append.mp h with h | h
  case inr => exact ggL_refusesStrings_X6_damp_c6 w h
  rcases List.mem_append.mp h with h | h
  · exact ggL_refusesStrings_X6_damp_c1 w h
  rcases List.mem_append.mp h with h | h
  · exact ggL_refusesStrings_X6_damp_c2 w h
  rcases List.mem_append.mp h with h | h
  · exact ggL_refusesStrings_X6_damp_c3 w h
  rcases List.mem_append.mp h with h | h
  · exact ggL_refusesStrings_X6_damp_c4 w h
  exact ggL_refusesStrings_X6_damp_c5 w h
set_option maxRecDepth 20000 in
theorem gL_refusesStrings_X6_damp : GoodIn wsL_refusesStrings (wsV RL 51 RX6 yX6_damp wsX6_damp) := goodIn_app (goodIn_of _ (by decide +kernel)) ggL_refusesStrings_X6_damp
set_option maxRecDepth 20000 in
theorem ggL_refusesStrings_X6_stringInfo_c0 : GoodIn wsL_refusesStrings [.code yX6_stringInfo cX6_stringInfo 3 (some .int)] := goodIn_r _ [216] (by decide +kernel) (by decide +kernel)
set_option maxRecDepth 20000 in
theorem ggL_refusesStrings_X6_stringInfo_c1 : GoodIn wsL_refusesStrings wsX6_stringInfo_r1 := goodIn_r _ [9, 10, 11, 217, 218, 140, 219, 12, 13, 5, 14, 15, 16, 17, 220, 221, 222, 58, 223, 65, 62, 132, 133, 134] (by decide +kernel) (by decide +kernel)
set_option maxRecDepth 20000 in
theorem ggL_refusesStrings_X6_stringInfo_c2 : GoodIn wsL_refusesStrings wsX6_stringInfo_r2 := goodIn_r _ [135, 66, 224, 193, 194, 33, 195, 36, 196, 173, 174, 175, 67, 197, 198, 199, 200, 38, 225, 226, 227, 228, 172] (by decide +kernel) (by decide +kernel)
set_option maxRecDepth 20000 in
theorem ggL_refusesStrings_X6_stringInfo_c3 : GoodIn wsL_refusesStrings wsX60 := goodIn_r _ [297, 298, 299] (by decide +kernel) (by decide +kernel)
set_option maxRecDepth 20000 in
theorem ggL_refusesStrings_X6_stringInfo_c4 : GoodIn wsL_refusesStrings wsX40 := goodIn_r _ [300, 301, 302, 303, 304, 305] (by decide +kernel) (by decide +kernel)
set_option maxRecDepth 20000 in
theorem ggL_refusesStrings_X6_stringInfo_c5 : GoodIn wsL_refusesStrings wsX50 := goodIn_r _ [306, 307, 308, 309, 310, 311, 312] (by decide +kernel) (by decide +kernel)
theorem ggL_refusesStrings_X6_stringInfo : GoodIn wsL_refusesStrings wsX6_stringInfo := by
  intro w h
  rcases List.mem_cons.mp h with h | h
  · exact ggL_refusesStrings_X6_stringInfo_c0 w (List.mem_singleton.mpr h)
  rcases List.mem_append.mp h with h | h
  case inr => exact ggL_refusesStrings_X6_stringInfo_c5 w h
  rcases List.mem_append.mp h with h | h
  case inr => exact ggL_refusesStrings_X6_stringInfo_c4 w h
  rcases List.mem_append.mp h with h | h
  case inr => exact ggL_refusesStrings_X6_stringInfo_c3 w h
  rcases List.mem_append.mp h with h | h
  · exact ggL_refusesStrings_X6_stringInfo_c1 w h
  exact ggL_refusesStrings_X6_stringInfo_c2 w h
set_option maxRecDepth 20000 in
theorem gL_refusesStrings_X6_stringInfo : GoodIn wsL_refusesStrings (wsV RL 29 RX6 yX6_stringInfo wsX6_stringInfo) := goodIn_app (goodIn_of _ (by decide +kernel)) ggL_refusesStrings_X6_stringInfo
set_option maxRecDepth 20000 in
theorem ggL_refusesStrings_X6_modeInfo_c0 : GoodIn wsL_refusesStrings [.code yX6_modeInfo cX6_modeInfo 4 (some .int)] := goodIn_r _ [232] (by decide +kernel) (by decide +kernel)
set_option maxRecDepth 20000 in
theorem ggL_refusesStrings_X6_modeInfo_c1 : GoodIn wsL_refusesStrings wsX6_modeInfo_r1 := goodIn_r _ [9, 10, 12, 13, 5, 14, 15, 16, 17, 233, 234, 235, 236, 173, 174, 58, 175, 67, 237, 238, 239, 240, 60, 168] (by decide +kernel) (by decide +kernel)
set_option maxRecDepth 20000 in
theorem ggL_refusesStrings_X6_modeInfo_c2 : GoodIn wsL_refusesStrings wsX6_modeInfo_r2 := goodIn_r _ [133, 134, 135, 66, 241, 242, 243, 244, 245, 246] (by decide +kernel) (by decide +kernel)
set_option maxRecDepth 20000 in
theorem ggL_refusesStrings_X6_modeInfo_c3 : GoodIn wsL_refusesStrings wsX60 := goodIn_r _ [297, 298, 299] (by decide +kernel) (by decide +kernel)
set_option maxRecDepth 20000 in
theorem ggL_refusesStrings_X6_modeInfo_c4 : GoodIn wsL_refusesStrings wsX40 := goodIn_r _ [300, 301, 302, 303, 304, 305] (by decide +kernel) (by decide +kernel)
set_option maxRecDepth 20000 in
theorem ggL_refusesStrings_X6_modeInfo_c5 : GoodIn wsL_refusesStrings wsX50 := goodIn_r _ [306, 307, 308, 309, 310, 311, 312] (by decide +kernel) (by decide +kernel)
theorem ggL_refusesStrings_X6_modeInfo : GoodIn wsL_refusesStrings wsX6_modeInfo := by
  intro w h
  rcases List.mem_cons.mp h with h | h
  · exact ggL_refusesStrings_X6_modeInfo_c0 w (List.mem_singleton.mpr h)
  rcases List.mem_append.mp h with h | h
  case inr => exact ggL_refusesStrings_X6_modeInfo_c5 w h
  rcases List.mem_append.mp h with h | h
  case inr => exact ggL_refusesStrings_X6_modeInfo_c4 w h
  rcases List.mem_append.mp h with h | h
  case inr => exact ggL_refusesStrings_X6_modeInfo_c3 w h
  rcases List.mem_append.mp h with h | h
  · exact ggL_refusesStrings_X6_modeInfo_c1 w h
  exact ggL_refusesStrings_X6_modeInfo_c2 w h
set_option maxRecDepth 20000 in
theorem gL_refusesStrings_X6_modeInfo : GoodIn wsL_refusesStrings (wsV RL 32 RX6 yX6_modeInfo wsX6_modeInfo) := goodIn_app (goodIn_of _ (by decide +kernel)) ggL_refusesStrings_X6_modeInfo
