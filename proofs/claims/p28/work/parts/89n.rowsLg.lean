set_option maxRecDepth 20000 in
theorem ggL_law_L_take : GoodIn wsL_law wsL_take := goodIn_r _ [606, 607] (by decide +kernel) (by decide +kernel)
set_option maxRecDepth 20000 in
theorem gL_law_L_take : GoodIn wsL_law (va_wsS RL 203 yL_take wsL_take) := goodIn_app (goodIn_of _ (by decide +kernel)) ggL_law_L_take
set_option maxRecDepth 20000 in
theorem ggL_law_L_part : GoodIn wsL_law wsL_part := goodIn_r _ [610, 611] (by decide +kernel) (by decide +kernel)
set_option maxRecDepth 20000 in
theorem gL_law_L_part : GoodIn wsL_law (va_wsS RL 207 yL_part wsL_part) := goodIn_app (goodIn_of _ (by decide +kernel)) ggL_law_L_part
set_option maxRecDepth 20000 in
theorem ggL_law_X6_fret_c0 : GoodIn wsL_law [.code yX6_fret cX6_fret 3 (some .int)] := goodIn_r _ [113] (by decide +kernel) (by decide +kernel)
set_option maxRecDepth 20000 in
theorem ggL_law_X6_fret_c1 : GoodIn wsL_law wsX6_fret_r1 := goodIn_r _ [49, 114, 115, 53, 116, 117, 2, 118, 119, 120, 121, 63, 122, 123, 124, 125, 126, 127, 78, 128, 129, 130, 131, 132] (by decide +kernel) (by decide +kernel)
set_option maxRecDepth 20000 in
theorem ggL_law_X6_fret_c2 : GoodIn wsL_law wsX6_fret_r2 := goodIn_r _ [133, 134, 52, 135, 136, 137, 138, 139, 140, 141, 104, 142, 143, 144, 48, 145, 64, 68, 72, 74, 146, 147, 148, 149] (by decide +kernel) (by decide +kernel)
set_option maxRecDepth 20000 in
theorem ggL_law_X6_fret_c3 : GoodIn wsL_law wsX6_fret_r3 := goodIn_r _ [150, 151, 152, 153, 154, 155, 156, 79, 80, 157, 158, 159, 67, 160, 88, 161, 89, 90, 91, 92, 93, 94, 162, 163] (by decide +kernel) (by decide +kernel)
set_option maxRecDepth 20000 in
theorem ggL_law_X6_fret_c4 : GoodIn wsL_law wsX6_fret_r4 := goodIn_r _ [164, 71, 165, 166, 98, 167, 99, 168, 169, 170, 171, 172, 173, 174, 175, 176, 177, 178, 179, 180, 181, 182, 183, 184] (by decide +kernel) (by decide +kernel)
set_option maxRecDepth 20000 in
theorem ggL_law_X6_fret_c5 : GoodIn wsL_law wsX6_fret_r5 := goodIn_r _ [185, 186, 187, 188, 189, 190, 191, 192, 193, 194, 195, 196, 197, 198, 199, 200, 201, 202, 203, 204, 205, 206, 207, 208] (by decide +kernel) (by decide +kernel)
set_option maxRecDepth 20000 in
theorem ggL_law_X6_fret_c6 : GoodIn wsL_law wsX6_fret_r6 := goodIn_r _ [209, 210, 211, 212, 213] (by decide +kernel) (by decide +kernel)
set_option maxRecDepth 20000 in
theorem ggL_law_X6_fret_c7 : GoodIn wsL_law wsX60 := goodIn_r _ [612, 613, 614] (by decide +kernel) (by decide +kernel)
set_option maxRecDepth 20000 in
theorem ggL_law_X6_fret_c8 : GoodIn wsL_law wsX40 := goodIn_r _ [615, 616, 617, 618, 619, 620] (by decide +kernel) (by decide +kernel)
set_option maxRecDepth 20000 in
theorem ggL_law_X6_fret_c9 : GoodIn wsL_law wsX10 := goodIn_r _ [633, 634, 635, 636] (by decide +kernel) (by decide +kernel)
set_option maxRecDepth 20000 in
theorem ggL_law_X6_fret_c10 : GoodIn wsL_law wsX00 := goodIn_r _ [621, 622, 623] (by decide +kernel) (by decide +kernel)
set_option maxRecDepth 20000 in
theorem ggL_law_X6_fret_c11 : GoodIn wsL_law wsX50 := goodIn_r _ [637, 638, 639, 640, 641, 642, 643] (by decide +kernel) (by decide +kernel)
set_option maxRecDepth 20000 in
theorem ggL_law_X6_fret_c12 : GoodIn wsL_law wsX20 := goodIn_r _ [644, 645, 646] (by decide +kernel) (by decide +kernel)
theorem ggL_law_X6_fret : GoodIn wsL_law wsX6_fret := by
  intro w h
  rcases List.mem_cons.mp h with h | h
  · exact ggL_law_X6_fret_c0 w (List.mem_singleton.mpr h)
  rcases List.mem_append.mp h with h | h
  case inr => exact ggL_law_X6_fret_c12 w h
  rcases List.mem_append.mp h with h | h
  case inr => exact ggL_law_X6_fret_c11 w h
  rcases List.mem_append.mp h with h | h
  case inr => exact ggL_law_X6_fret_c10 w h
  rcases List.mem_append.mp h with h | h
  case inr => exact ggL_law_X6_fret_c9 w h
  rcases List.mem_append.mp h with h | h
  case inr => exact ggL_law_X6_fret_c8 w h
  rcases List.mem_append.mp h with h | h
  case inr => exact ggL_law_X6_fret_c7 w h
  rcases List.mem_append.mp h with h | h
  · exact ggL_law_X6_fret_c1 w h
  rcases List.mem_append.mp h with h | h
  · exact ggL_law_X6_fret_c2 w h
  rcases List.mem_append.mp h with h | h
  · exact ggL_law_X6_fret_c3 w h
  rcases List.mem_append.mp h with h | h
  · exact ggL_law_X6_fret_c4 w h
  rcases List.mem_append.mp h with h | h
  · exact ggL_law_X6_fret_c5 w h
  exact ggL_law_X6_fret_c6 w h
set_option maxRecDepth 20000 in
theorem gL_law_X6_fret : GoodIn wsL_law (wsV RL 79 RX6 yX6_fret wsX6_fret) := goodIn_app (goodIn_of _ (by decide +kernel)) ggL_law_X6_fret
set_option maxRecDepth 20000 in
theorem ggL_law_X6_fretInfo_c0 : GoodIn wsL_law [.code yX6_fretInfo cX6_fretInfo 3 (some .int)] := goodIn_r _ [429] (by decide +kernel) (by decide +kernel)
set_option maxRecDepth 20000 in
theorem ggL_law_X6_fretInfo_c1 : GoodIn wsL_law wsX6_fretInfo_r1 := goodIn_r _ [49, 114, 323, 430, 129, 130, 63, 131, 123, 117, 2, 118, 431, 125, 126, 127, 78, 128, 432, 190, 191, 192, 79, 433] (by decide +kernel) (by decide +kernel)
set_option maxRecDepth 20000 in
theorem ggL_law_X6_fretInfo_c2 : GoodIn wsL_law wsX6_fretInfo_r2 := goodIn_r _ [434, 435, 436, 80, 437, 438, 439, 67, 440, 89, 441, 442, 443, 444, 445, 446, 447, 92, 448, 186, 187, 188, 189, 124] (by decide +kernel) (by decide +kernel)
set_option maxRecDepth 20000 in
theorem ggL_law_X6_fretInfo_c3 : GoodIn wsL_law wsX6_fretInfo_r3 := goodIn_r _ [193, 194, 195, 196, 197, 198, 199, 200] (by decide +kernel) (by decide +kernel)
set_option maxRecDepth 20000 in
theorem ggL_law_X6_fretInfo_c4 : GoodIn wsL_law wsX60 := goodIn_r _ [612, 613, 614] (by decide +kernel) (by decide +kernel)
set_option maxRecDepth 20000 in
theorem ggL_law_X6_fretInfo_c5 : GoodIn wsL_law wsX40 := goodIn_r _ [615, 616, 617, 618, 619, 620] (by decide +kernel) (by decide +kernel)
set_option maxRecDepth 20000 in
theorem ggL_law_X6_fretInfo_c6 : GoodIn wsL_law wsX10 := goodIn_r _ [633, 634, 635, 636] (by decide +kernel) (by decide +kernel)
set_option maxRecDepth 20000 in
theorem ggL_law_X6_fretInfo_c7 : GoodIn wsL_law wsX50 := goodIn_r _ [637, 638, 639, 640, 641, 642, 643] (by decide +kernel) (by decide +kernel)
theorem ggL_law_X6_fretInfo : GoodIn wsL_law wsX6_fretInfo := by
  intro w h
  rcases List.mem_cons.mp h with h | h
  · exact ggL_law_X6_fretInfo_c0 w (List.mem_singleton.mpr h)
  rcases List.mem_append.mp h with h | h
  case inr => exact ggL_law_X6_fretInfo_c7 w h
  rcases List.mem_append.mp h with h | h
  case inr => exact ggL_law_X6_fretInfo_c6 w h
  rcases List.mem_append.mp h with h | h
  case inr => exact ggL_law_X6_fretInfo_c5 w h
  rcases List.mem_append.mp h with h | h
  case inr => exact ggL_law_X6_fretInfo_c4 w h
  rcases List.mem_append.mp h with h | h
  · exact ggL_law_X6_fretInfo_c1 w h
  rcases List.mem_append.mp h with h | h
  · exact ggL_law_X6_fretInfo_c2 w h
  exact ggL_law_X6_fretInfo_c3 w h
set_option maxRecDepth 20000 in
theorem gL_law_X6_fretInfo : GoodIn wsL_law (wsV RL 25 RX6 yX6_fretInfo wsX6_fretInfo) := goodIn_app (goodIn_of _ (by decide +kernel)) ggL_law_X6_fretInfo
