set_option maxRecDepth 20000 in
theorem ggL_law_X6_undo_c0 : GoodIn wsL_law [.code yX6_undo cX6_undo 1 (some .int)] := goodIn_r _ [452] (by decide +kernel) (by decide +kernel)
set_option maxRecDepth 20000 in
theorem ggL_law_X6_undo_c1 : GoodIn wsL_law wsX6_undo_r1 := goodIn_r _ [53, 328, 49, 453, 454, 455, 52, 456, 136, 138, 139, 140, 141, 137, 104, 142, 143, 144, 48, 145, 64, 68, 72, 74] (by decide +kernel) (by decide +kernel)
set_option maxRecDepth 20000 in
theorem ggL_law_X6_undo_c2 : GoodIn wsL_law wsX6_undo_r2 := goodIn_r _ [146, 147, 148, 149, 150, 151, 152, 153, 154, 63, 155, 123, 78, 156, 79, 80, 157, 158, 159, 67, 160, 88, 161, 89] (by decide +kernel) (by decide +kernel)
set_option maxRecDepth 20000 in
theorem ggL_law_X6_undo_c3 : GoodIn wsL_law wsX6_undo_r3 := goodIn_r _ [90, 91, 92, 93, 94, 162, 163, 164, 71, 165, 166, 98, 167, 99] (by decide +kernel) (by decide +kernel)
set_option maxRecDepth 20000 in
theorem ggL_law_X6_undo_c4 : GoodIn wsL_law wsX60 := goodIn_r _ [612, 613, 614] (by decide +kernel) (by decide +kernel)
set_option maxRecDepth 20000 in
theorem ggL_law_X6_undo_c5 : GoodIn wsL_law wsX00 := goodIn_r _ [621, 622, 623] (by decide +kernel) (by decide +kernel)
set_option maxRecDepth 20000 in
theorem ggL_law_X6_undo_c6 : GoodIn wsL_law wsX40 := goodIn_r _ [615, 616, 617, 618, 619, 620] (by decide +kernel) (by decide +kernel)
set_option maxRecDepth 20000 in
theorem ggL_law_X6_undo_c7 : GoodIn wsL_law wsX10 := goodIn_r _ [633, 634, 635, 636] (by decide +kernel) (by decide +kernel)
set_option maxRecDepth 20000 in
theorem ggL_law_X6_undo_c8 : GoodIn wsL_law wsX50 := goodIn_r _ [637, 638, 639, 640, 641, 642, 643] (by decide +kernel) (by decide +kernel)
set_option maxRecDepth 20000 in
theorem ggL_law_X6_undo_c9 : GoodIn wsL_law wsX20 := goodIn_r _ [644, 645, 646] (by decide +kernel) (by decide +kernel)
theorem ggL_law_X6_undo : GoodIn wsL_law wsX6_undo := by
  intro w h
  rcases List.mem_cons.mp h with h | h
  · exact ggL_law_X6_undo_c0 w (List.mem_singleton.mpr h)
  rcases List.mem_append.mp h with h | h
  case inr => exact ggL_law_X6_undo_c9 w h
  rcases List.mem_append.mp h with h | h
  case inr => exact ggL_law_X6_undo_c8 w h
  rcases List.mem_append.mp h with h | h
  case inr => exact ggL_law_X6_undo_c7 w h
  rcases List.mem_append.mp h with h | h
  case inr => exact ggL_law_X6_undo_c6 w h
  rcases List.mem_append.mp h with h | h
  case inr => exact ggL_law_X6_undo_c5 w h
  rcases List.mem_append.mp h with h | h
  case inr => exact ggL_law_X6_undo_c4 w h
  rcases List.mem_append.mp h with h | h
  · exact ggL_law_X6_undo_c1 w h
  rcases List.mem_append.mp h with h | h
  · exact ggL_law_X6_undo_c2 w h
  exact ggL_law_X6_undo_c3 w h
set_option maxRecDepth 20000 in
theorem gL_law_X6_undo : GoodIn wsL_law (wsV RL 180 RX6 yX6_undo wsX6_undo) := goodIn_app (goodIn_of _ (by decide +kernel)) ggL_law_X6_undo
