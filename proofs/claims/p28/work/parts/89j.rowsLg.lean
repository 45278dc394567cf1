set_option maxRecDepth 20000 in
theorem ggL_known_X6_fret_c0 : GoodIn wsL_known [.code yX6_fret cX6_fret 3 (some .int)] := goodIn_r _ [441] (by decide +kernel) (by decide +kernel)
set_option maxRecDepth 20000 in
theorem ggL_known_X6_fret_c1 : GoodIn wsL_known wsX6_fret_r1 := goodIn_r _ [21, 96, 97, 25, 210, 158, 3, 159, 442, 443, 444, 35, 445, 157, 189, 161, 162, 163, 50, 164, 154, 155, 156, 271] (by decide +kernel) (by decide +kernel)
set_option maxRecDepth 20000 in
theorem ggL_known_X6_fret_c2 : GoodIn wsL_known wsX6_fret_r2 := goodIn_r _ [272, 273, 24, 274, 275, 276, 277, 278, 279, 280, 76, 281, 282, 283, 20, 284, 36, 40, 44, 46, 285, 286, 287, 288] (by decide +kernel) (by decide +kernel)
set_option maxRecDepth 20000 in
theorem ggL_known_X6_fret_c3 : GoodIn wsL_known wsX6_fret_r3 := goodIn_r _ [289, 290, 291, 292, 293, 294, 295, 51, 52, 296, 297, 298, 39, 299, 60, 300, 61, 62, 63, 64, 65, 66, 301, 302] (by decide +kernel) (by decide +kernel)
set_option maxRecDepth 20000 in
theorem ggL_known_X6_fret_c4 : GoodIn wsL_known wsX6_fret_r4 := goodIn_r _ [303, 43, 304, 253, 70, 305, 71, 446, 447, 448, 449, 450, 451, 452, 453, 454, 455, 456, 457, 319, 320, 321, 322, 318] (by decide +kernel) (by decide +kernel)
set_option maxRecDepth 20000 in
theorem ggL_known_X6_fret_c5 : GoodIn wsL_known wsX6_fret_r5 := goodIn_r _ [323, 185, 186, 187, 188, 166, 167, 168, 190, 191, 192, 193, 194, 195, 196, 197, 324, 325, 326, 327, 328, 329, 330, 331] (by decide +kernel) (by decide +kernel)
set_option maxRecDepth 20000 in
theorem ggL_known_X6_fret_c6 : GoodIn wsL_known wsX6_fret_r6 := goodIn_r _ [332, 333, 334, 335, 336] (by decide +kernel) (by decide +kernel)
set_option maxRecDepth 20000 in
theorem ggL_known_X6_fret_c7 : GoodIn wsL_known wsX60 := goodIn_r _ [545, 546, 547] (by decide +kernel) (by decide +kernel)
set_option maxRecDepth 20000 in
theorem ggL_known_X6_fret_c8 : GoodIn wsL_known wsX40 := goodIn_r _ [548, 549, 550, 551, 552, 553] (by decide +kernel) (by decide +kernel)
set_option maxRecDepth 20000 in
theorem ggL_known_X6_fret_c9 : GoodIn wsL_known wsX10 := goodIn_r _ [566, 567, 568, 569] (by decide +kernel) (by decide +kernel)
set_option maxRecDepth 20000 in
theorem ggL_known_X6_fret_c10 : GoodIn wsL_known wsX00 := goodIn_r _ [554, 555, 556] (by decide +kernel) (by decide +kernel)
set_option maxRecDepth 20000 in
theorem ggL_known_X6_fret_c11 : GoodIn wsL_known wsX50 := goodIn_r _ [570, 571, 572, 573, 574, 575, 576] (by decide +kernel) (by decide +kernel)
set_option maxRecDepth 20000 in
theorem ggL_known_X6_fret_c12 : GoodIn wsL_known wsX20 := goodIn_r _ [577, 578, 579] (by decide +kernel) (by decide +kernel)
theorem ggL_known_X6_fret : GoodIn wsL_known wsX6_fret := by
  intro w h
  rcases List.mem_cons.mp h with h | h
  · exact ggL_known_X6_fret_c0 w (List.mem_singleton.mpr h)
  rcases List.mem_append.mp h with h | h
  case inr => exact ggL_known_X6_fret_c12 w h
  rcases List.mem_append.mp h with h | h
  case inr => exact ggL_known_X6_fret_c11 w h
  rcases List.mem_append.mp h with h | h
  case inr => exact ggL_known_X6_fret_c10 w h
  rcases List.mem_append.mp h with h | h
  case inr => exact ggL_known_X6_fret_c9 w h
  rcases List.mem_append.mp h with h | h
  case inr => exact ggL_known_X6_fret_c8 w h
  rcases List.mem_append.mp h with h | h
  case inr => exact ggL_known_X6_fret_c7 w h
  rcases List.mem_append.mp h with h | h
  · exact ggL_known_X6_fret_c1 w h
  rcases List.mem_append.mp h with h | h
  · exact ggL_known_X6_fret_c2 w h
  rcases List.mem_append.mp h with h | h
  · exact ggL_known_X6_fret_c3 w h
  rcases List.mem_append.mp h with h | h
  · exact ggL_known_X6_fret_c4 w h
  rcases List.mem_append.mp h with h | h
  · exact ggL_known_X6_fret_c5 w h
  exact ggL_known_X6_fret_c6 w h
set_option maxRecDepth 20000 in
theorem gL_known_X6_fret : GoodIn wsL_known (wsV RL 79 RX6 yX6_fret wsX6_fret) := goodIn_app (goodIn_of _ (by decide +kernel)) ggL_known_X6_fret
set_option maxRecDepth 20000 in
theorem ggL_known_X6_press_c0 : GoodIn wsL_known [.code yX6_press cX6_press 3 (some .int)] := goodIn_r _ [309] (by decide +kernel) (by decide +kernel)
set_option maxRecDepth 20000 in
theorem ggL_known_X6_press_c1 : GoodIn wsL_known wsX6_press_r1 := goodIn_r _ [21, 96, 25, 99, 207, 208, 3, 209, 210, 158, 159, 310, 311, 312, 35, 313, 157, 271, 272, 273, 24, 274, 275, 276] (by decide +kernel) (by decide +kernel)
set_option maxRecDepth 20000 in
theorem ggL_known_X6_press_c2 : GoodIn wsL_known wsX6_press_r2 := goodIn_r _ [277, 278, 279, 280, 76, 281, 282, 283, 20, 284, 36, 40, 44, 46, 285, 286, 287, 288, 289, 290, 291, 292, 293, 294] (by decide +kernel) (by decide +kernel)
set_option maxRecDepth 20000 in
theorem ggL_known_X6_press_c3 : GoodIn wsL_known wsX6_press_r3 := goodIn_r _ [50, 295, 51, 52, 296, 297, 298, 39, 299, 60, 300, 61, 62, 63, 64, 65, 66, 301, 302, 303, 43, 304, 253, 70] (by decide +kernel) (by decide +kernel)
set_option maxRecDepth 20000 in
theorem ggL_known_X6_press_c4 : GoodIn wsL_known wsX6_press_r4 := goodIn_r _ [305, 71, 314, 315, 316, 317, 318, 319, 320, 321, 322, 323, 185, 186, 187, 164, 154, 155, 156, 188, 166, 167, 168, 189] (by decide +kernel) (by decide +kernel)
set_option maxRecDepth 20000 in
theorem ggL_known_X6_press_c5 : GoodIn wsL_known wsX6_press_r5 := goodIn_r _ [161, 162, 163, 190, 191, 192, 193, 194, 195, 196, 197, 324, 325, 326, 327, 328, 329, 330, 331, 332, 333, 334, 335, 336] (by decide +kernel) (by decide +kernel)
set_option maxRecDepth 20000 in
theorem ggL_known_X6_press_c6 : GoodIn wsL_known wsX6_press_r6 := goodIn_r _ [212, 213, 214, 215] (by decide +kernel) (by decide +kernel)
set_option maxRecDepth 20000 in
theorem ggL_known_X6_press_c7 : GoodIn wsL_known wsX60 := goodIn_r _ [545, 546, 547] (by decide +kernel) (by decide +kernel)
set_option maxRecDepth 20000 in
theorem ggL_known_X6_press_c8 : GoodIn wsL_known wsX40 := goodIn_r _ [548, 549, 550, 551, 552, 553] (by decide +kernel) (by decide +kernel)
set_option maxRecDepth 20000 in
theorem ggL_known_X6_press_c9 : GoodIn wsL_known wsX10 := goodIn_r _ [566, 567, 568, 569] (by decide +kernel) (by decide +kernel)
set_option maxRecDepth 20000 in
theorem ggL_known_X6_press_c10 : GoodIn wsL_known wsX00 := goodIn_r _ [554, 555, 556] (by decide +kernel) (by decide +kernel)
set_option maxRecDepth 20000 in
theorem ggL_known_X6_press_c11 : GoodIn wsL_known wsX50 := goodIn_r _ [570, 571, 572, 573, 574, 575, 576] (by decide +kernel) (by decide +kernel)
set_option maxRecDepth 20000 in
theorem ggL_known_X6_press_c12 : GoodIn wsL_known wsX20 := goodIn_r _ [577, 578, 579] (by decide +kernel) (by decide +kernel)
theorem ggL_known_X6_press : GoodIn wsL_known wsX6_press := by
  intro w h
  rcases List.mem_cons.mp h with h | h
  · exact ggL_known_X6_press_c0 w (List.mem_singleton.mpr h)
  rcases List.mem_append.mp h with h | h
  case inr => exact ggL_known_X6_press_c12 w h
  rcases List.mem_append.mp h with h | h
  case inr => exact ggL_known_X6_press_c11 w h
  rcases List.mem_append.mp h with h | h
  case inr => exact ggL_known_X6_press_c10 w h
  rcases List.mem_append.mp h with h | h
  case inr => exact ggL_known_X6_press_c9 w h
  rcases List.mem_append.mp h with h | h
  case inr => exact ggL_known_X6_press_c8 w h
  rcases List.mem_append.mp h with h | h
  case inr => exact ggL_known_X6_press_c7 w h
  rcases List.mem_append.mp h with h | h
  · exact ggL_known_X6_press_c1 w h
  rcases List.mem_append.mp h with h | h
  · exact ggL_known_X6_press_c2 w h
  rcases List.mem_append.mp h with h | h
  · exact ggL_known_X6_press_c3 w h
  rcases List.mem_append.mp h with h | h
  · exact ggL_known_X6_press_c4 w h
  rcases List.mem_append.mp h with h | h
  · exact ggL_known_X6_press_c5 w h
  exact ggL_known_X6_press_c6 w h
set_option maxRecDepth 20000 in
theorem gL_known_X6_press : GoodIn wsL_known (wsV RL 42 RX6 yX6_press wsX6_press) := goodIn_app (goodIn_of _ (by decide +kernel)) ggL_known_X6_press
set_option maxRecDepth 20000 in
theorem ggL_known_X6_mostFor_c0 : GoodIn wsL_known [.code yX6_mostFor cX6_mostFor 2 (some .int)] := goodIn_r _ [476] (by decide +kernel) (by decide +kernel)
set_option maxRecDepth 20000 in
theorem ggL_known_X6_mostFor_c1 : GoodIn wsL_known wsX6_mostFor_r1 := goodIn_r _ [21, 96, 153, 154, 155, 35, 156, 157, 158, 3, 159, 477, 478, 479, 480, 378, 360, 361, 362, 379, 380, 381, 189, 161] (by decide +kernel) (by decide +kernel)
set_option maxRecDepth 20000 in
theorem ggL_known_X6_mostFor_c2 : GoodIn wsL_known wsX6_mostFor_r2 := goodIn_r _ [162, 163, 50, 164, 190, 191, 192, 193, 188, 166, 167, 168, 51, 194, 195, 196, 197] (by decide +kernel) (by decide +kernel)
set_option maxRecDepth 20000 in
theorem ggL_known_X6_mostFor_c3 : GoodIn wsL_known wsX60 := goodIn_r _ [545, 546, 547] (by decide +kernel) (by decide +kernel)
set_option maxRecDepth 20000 in
theorem ggL_known_X6_mostFor_c4 : GoodIn wsL_known wsX40 := goodIn_r _ [548, 549, 550, 551, 552, 553] (by decide +kernel) (by decide +kernel)
set_option maxRecDepth 20000 in
theorem ggL_known_X6_mostFor_c5 : GoodIn wsL_known wsX10 := goodIn_r _ [566, 567, 568, 569] (by decide +kernel) (by decide +kernel)
theorem ggL_known_X6_mostFor : GoodIn wsL_known wsX6_mostFor := by
  intro w h
  rcases List.mem_cons.mp h with h | h
  · exact ggL_known_X6_mostFor_c0 w (List.mem_singleton.mpr h)
  rcases List.mem_append.mp h with h | h
  case inr => exact ggL_known_X6_mostFor_c5 w h
  rcases List.mem_append.mp h with h | h
  case inr => exact ggL_known_X6_mostFor_c4 w h
  rcases List.mem_append.mp h with h | h
  case inr => exact ggL_known_X6_mostFor_c3 w h
  rcases List.mem_append.mp h with h | h
  · exact ggL_known_X6_mostFor_c1 w h
  exact ggL_known_X6_mostFor_c2 w h
set_option maxRecDepth 20000 in
theorem gL_known_X6_mostFor : GoodIn wsL_known (wsV RL 90 RX6 yX6_mostFor wsX6_mostFor) := goodIn_app (goodIn_of _ (by decide +kernel)) ggL_known_X6_mostFor
set_option maxRecDepth 20000 in
theorem ggL_known_X6_fretInfo_c0 : GoodIn wsL_known [.code yX6_fretInfo cX6_fretInfo 3 (some .int)] := goodIn_r _ [152] (by decide +kernel) (by decide +kernel)
set_option maxRecDepth 20000 in
theorem ggL_known_X6_fretInfo_c1 : GoodIn wsL_known wsX6_fretInfo_r1 := goodIn_r _ [21, 96, 99, 153, 154, 155, 35, 156, 157, 158, 3, 159, 160, 161, 162, 163, 50, 164, 165, 166, 167, 168, 51, 169] (by decide +kernel) (by decide +kernel)
set_option maxRecDepth 20000 in
theorem ggL_known_X6_fretInfo_c2 : GoodIn wsL_known wsX6_fretInfo_r2 := goodIn_r _ [170, 171, 172, 52, 173, 174, 175, 39, 176, 61, 177, 178, 179, 180, 181, 182, 183, 64, 184, 185, 186, 187, 188, 189] (by decide +kernel) (by decide +kernel)
set_option maxRecDepth 20000 in
theorem ggL_known_X6_fretInfo_c3 : GoodIn wsL_known wsX6_fretInfo_r3 := goodIn_r _ [190, 191, 192, 193, 194, 195, 196, 197] (by decide +kernel) (by decide +kernel)
set_option maxRecDepth 20000 in
theorem ggL_known_X6_fretInfo_c4 : GoodIn wsL_known wsX60 := goodIn_r _ [545, 546, 547] (by decide +kernel) (by decide +kernel)
set_option maxRecDepth 20000 in
theorem ggL_known_X6_fretInfo_c5 : GoodIn wsL_known wsX40 := goodIn_r _ [548, 549, 550, 551, 552, 553] (by decide +kernel) (by decide +kernel)
set_option maxRecDepth 20000 in
theorem ggL_known_X6_fretInfo_c6 : GoodIn wsL_known wsX10 := goodIn_r _ [566, 567, 568, 569] (by decide +kernel) (by decide +kernel)
set_option maxRecDepth 20000 in
theorem ggL_known_X6_fretInfo_c7 : GoodIn wsL_known wsX50 := goodIn_r _ [570, 571, 572, 573, 574, 575, 576] (by decide +kernel) (by decide +kernel)
theorem ggL_known_X6_fretInfo : GoodIn wsL_known wsX6_fretInfo := by
  intro w h
  rcases List.mem_cons.mp h with h | h
  · exact ggL_known_X6_fretInfo_c0 w (List.mem_singleton.mpr h)
  rcases List.mem_append.mp h with h | h
  case inr => exact ggL_known_X6_fretInfo_c7 w h
  rcases List.mem_append.mp h with h | h
  case inr => exact ggL_known_X6_fretInfo_c6 w h
  rcases List.mem_append.mp h with h | h
  case inr => exact ggL_known_X6_fretInfo_c5 w h
  rcases List.mem_append.mp h with h | h
  case inr => exact ggL_known_X6_fretInfo_c4 w h
  rcases List.mem_append.mp h with h | h
  · exact ggL_known_X6_fretInfo_c1 w h
  rcases List.mem_append.mp h with h | h
  · exact ggL_known_X6_fretInfo_c2 w h
  exact ggL_known_X6_fretInfo_c3 w h
set_option maxRecDepth 20000 in
theorem gL_known_X6_fretInfo : GoodIn wsL_known (wsV RL 25 RX6 yX6_fretInfo wsX6_fretInfo) := goodIn_app (goodIn_of _ (by decide +kernel)) ggL_known_X6_fretInfo
set_option maxRecDepth 20000 in
theorem ggL_known_X6_count_c0 : GoodIn wsL_known [.code yX6_count cX6_count 2 (some .int)] := goodIn_r _ [95] (by decide +kernel) (by decide +kernel)
set_option maxRecDepth 20000 in
theorem ggL_known_X6_count_c1 : GoodIn wsL_known wsX6_count_r1 := goodIn_r _ [21, 96, 97, 98, 99, 100, 101, 102, 103, 25, 104, 29, 105, 106, 107, 108, 20, 109, 110, 111, 112, 113, 114, 115] (by decide +kernel) (by decide +kernel)
set_option maxRecDepth 20000 in
theorem ggL_known_X6_count_c2 : GoodIn wsL_known wsX6_count_r2 := goodIn_r _ [116, 117, 40, 118, 119, 120, 39, 121, 66, 122, 123, 124, 125, 46, 126, 127, 128, 129, 130, 131, 132, 133, 134, 135] (by decide +kernel) (by decide +kernel)
set_option maxRecDepth 20000 in
theorem ggL_known_X6_count_c3 : GoodIn wsL_known wsX6_count_r3 := goodIn_r _ [136, 137, 138, 139, 140, 64, 61, 141, 142, 143, 144, 63] (by decide +kernel) (by decide +kernel)
set_option maxRecDepth 20000 in
theorem ggL_known_X6_count_c4 : GoodIn wsL_known wsX60 := goodIn_r _ [545, 546, 547] (by decide +kernel) (by decide +kernel)
set_option maxRecDepth 20000 in
theorem ggL_known_X6_count_c5 : GoodIn wsL_known wsX40 := goodIn_r _ [548, 549, 550, 551, 552, 553] (by decide +kernel) (by decide +kernel)
set_option maxRecDepth 20000 in
theorem ggL_known_X6_count_c6 : GoodIn wsL_known wsX10 := goodIn_r _ [566, 567, 568, 569] (by decide +kernel) (by decide +kernel)
set_option maxRecDepth 20000 in
theorem ggL_known_X6_count_c7 : GoodIn wsL_known wsX20 := goodIn_r _ [577, 578, 579] (by decide +kernel) (by decide +kernel)
set_option maxRecDepth 20000 in
theorem ggL_known_X6_count_c8 : GoodIn wsL_known wsX00 := goodIn_r _ [554, 555, 556] (by decide +kernel) (by decide +kernel)
set_option maxRecDepth 20000 in
theorem ggL_known_X6_count_c9 : GoodIn wsL_known wsX30 := goodIn_r _ [557, 558, 559, 560, 561, 562, 563, 564, 565] (by decide +kernel) (by decide +kernel)
set_option maxRecDepth 20000 in
theorem ggL_known_X6_count_c10 : GoodIn wsL_known wsX50 := goodIn_r _ [570, 571, 572, 573, 574, 575, 576] (by decide +kernel) (by decide +kernel)
theorem ggL_known_X6_count : GoodIn wsL_known wsX6_count := by
  intro w h
  rcases List.mem_cons.mp h with h | h
  · exact ggL_known_X6_count_c0 w (List.mem_singleton.mpr h)
  rcases List.mem_append.mp h with h | h
  case inr => exact ggL_known_X6_count_c10 w h
  rcases List.mem_append.mp h with h | h
  case inr => exact ggL_known_X6_count_c9 w h
  rcases List.mem_append.mp h with h | h
  case inr => exact ggL_known_X6_count_c8 w h
  rcases List.mem_append.mp h with h | h
  case inr => exact ggL_known_X6_count_c7 w h
  rcases List.mem_append.mp h with h | h
  case inr => exact ggL_known_X6_count_c6 w h
  rcases List.mem_append.mp h with h | h
  case inr => exact ggL_known_X6_count_c5 w h
  rcases List.mem_append.mp h with h | h
  case inr => exact ggL_known_X6_count_c4 w h
  rcases List.mem_append.mp h with h | h
  · exact ggL_known_X6_count_c1 w h
  rcases List.mem_append.mp h with h | h
  · exact ggL_known_X6_count_c2 w h
  exact ggL_known_X6_count_c3 w h
set_option maxRecDepth 20000 in
theorem gL_known_X6_count : GoodIn wsL_known (wsV RL 13 RX6 yX6_count wsX6_count) := goodIn_app (goodIn_of _ (by decide +kernel)) ggL_known_X6_count
set_option maxRecDepth 20000 in
theorem ggL_known_X6_played : GoodIn wsL_known wsX6_played := goodIn_r _ [244, 21, 100, 101, 210, 158, 3, 159, 245, 246, 247, 43, 248, 249, 250, 251, 252, 253, 70, 254, 255, 256, 257, 258, 259, 260, 261, 71, 545, 546, 547, 548, 549, 550, 551, 552, 553, 577, 578, 579] (by decide +kernel) (by decide +kernel)
set_option maxRecDepth 20000 in
theorem gL_known_X6_played : GoodIn wsL_known (wsV RL 36 RX6 yX6_played wsX6_played) := goodIn_app (goodIn_of _ (by decide +kernel)) ggL_known_X6_played
