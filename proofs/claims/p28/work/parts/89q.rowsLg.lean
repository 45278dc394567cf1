set_option maxRecDepth 20000 in
theorem ggL_law_X6_level_c0 : GoodIn wsL_law [.code yX6_level cX6_level 4 (some .int)] := goodIn_r _ [590] (by decide +kernel) (by decide +kernel)
set_option maxRecDepth 20000 in
theorem ggL_law_X6_level_c1 : GoodIn wsL_law wsX6_level_r1 := goodIn_r _ [49, 114, 53, 430, 129, 130, 63, 131, 123, 117, 2, 118, 116, 432, 190, 191, 192, 79, 128, 132, 133, 134, 52, 135] (by decide +kernel) (by decide +kernel)
set_option maxRecDepth 20000 in
theorem ggL_law_X6_level_c2 : GoodIn wsL_law wsX6_level_r2 := goodIn_r _ [136, 137, 138, 139, 140, 141, 104, 142, 143, 144, 48, 145, 64, 68, 72, 74, 146, 147, 148, 149, 150, 151, 152, 153] (by decide +kernel) (by decide +kernel)
set_option maxRecDepth 20000 in
theorem ggL_law_X6_level_c3 : GoodIn wsL_law wsX6_level_r3 := goodIn_r _ [154, 155, 78, 156, 80, 157, 158, 159, 67, 160, 88, 161, 89, 90, 91, 92, 93, 94, 162, 163, 164, 71, 165, 166] (by decide +kernel) (by decide +kernel)
set_option maxRecDepth 20000 in
theorem ggL_law_X6_level_c4 : GoodIn wsL_law wsX6_level_r4 := goodIn_r _ [98, 167, 99, 591, 592, 593, 594, 595, 181, 182, 183, 184, 185, 186, 187, 188, 189, 124, 125, 126, 127, 193, 194, 195] (by decide +kernel) (by decide +kernel)
set_option maxRecDepth 20000 in
theorem ggL_law_X6_level_c5 : GoodIn wsL_law wsX6_level_r5 := goodIn_r _ [196, 197, 198, 199, 200, 201, 202, 203, 204, 205, 206, 207, 208, 209, 210, 211, 212, 213] (by decide +kernel) (by decide +kernel)
set_option maxRecDepth 20000 in
theorem ggL_law_X6_level_c6 : GoodIn wsL_law wsX60 := goodIn_r _ [612, 613, 614] (by decide +kernel) (by decide +kernel)
set_option maxRecDepth 20000 in
theorem ggL_law_X6_level_c7 : GoodIn wsL_law wsX40 := goodIn_r _ [615, 616, 617, 618, 619, 620] (by decide +kernel) (by decide +kernel)
set_option maxRecDepth 20000 in
theorem ggL_law_X6_level_c8 : GoodIn wsL_law wsX10 := goodIn_r _ [633, 634, 635, 636] (by decide +kernel) (by decide +kernel)
set_option maxRecDepth 20000 in
theorem ggL_law_X6_level_c9 : GoodIn wsL_law wsX00 := goodIn_r _ [621, 622, 623] (by decide +kernel) (by decide +kernel)
set_option maxRecDepth 20000 in
theorem ggL_law_X6_level_c10 : GoodIn wsL_law wsX50 := goodIn_r _ [637, 638, 639, 640, 641, 642, 643] (by decide +kernel) (by decide +kernel)
set_option maxRecDepth 20000 in
theorem ggL_law_X6_level_c11 : GoodIn wsL_law wsX20 := goodIn_r _ [644, 645, 646] (by decide +kernel) (by decide +kernel)
theorem ggL_law_X6_level : GoodIn wsL_law wsX6_level := by
  intro w h
  rcases List.mem_cons.mp h with h | h
  · exact ggL_law_X6_level_c0 w (List.mem_singleton.mpr h)
  rcases List.mem_append.mp h with h | h
  case inr => exact ggL_law_X6_level_c11 w h
  rcases List.mem_append.mp h with h | h
  case inr => exact ggL_law_X6_level_c10 w h
  rcases List.mem_append.mp h with h | h
  case inr => exact ggL_law_X6_level_c9 w h
  rcases List.mem_append.mp h with h | h
  case inr => exact ggL_law_X6_level_c8 w h
  rcases List.mem_append.mp h with h | h
  case inr => exact ggL_law_X6_level_c7 w h
  rcases List.mem_append.mp h with h | h
  case inr => exact ggL_law_X6_level_c6 w h
  rcases List.mem_append.mp h with h | h
  · exact ggL_law_X6_level_c1 w h
  rcases List.mem_append.mp h with h | h
  · exact ggL_law_X6_level_c2 w h
  rcases List.mem_append.mp h with h | h
  · exact ggL_law_X6_level_c3 w h
  rcases List.mem_append.mp h with h | h
  · exact ggL_law_X6_level_c4 w h
  exact ggL_law_X6_level_c5 w h
set_option maxRecDepth 20000 in
theorem gL_law_X6_level : GoodIn wsL_law (wsV RL 87 RX6 yX6_level wsX6_level) := goodIn_app (goodIn_of _ (by decide +kernel)) ggL_law_X6_level
set_option maxRecDepth 20000 in
theorem ggL_law_X6_run_c0 : GoodIn wsL_law [.code yX6_run cX6_run 2 (some .int)] := goodIn_r _ [460] (by decide +kernel) (by decide +kernel)
set_option maxRecDepth 20000 in
theorem ggL_law_X6_run_c1 : GoodIn wsL_law wsX6_run_r1 := goodIn_r _ [49, 218, 461, 53, 116, 117, 2, 118, 132, 133, 134, 52, 135, 136, 137, 138, 139, 140, 141, 104, 142, 143, 144, 48] (by decide +kernel) (by decide +kernel)
set_option maxRecDepth 20000 in
theorem ggL_law_X6_run_c2 : GoodIn wsL_law wsX6_run_r2 := goodIn_r _ [145, 64, 68, 72, 74, 146, 147, 148, 149, 150, 151, 152, 153, 154, 63, 155, 123, 78, 156, 79, 80, 157, 158, 159] (by decide +kernel) (by decide +kernel)
set_option maxRecDepth 20000 in
theorem ggL_law_X6_run_c3 : GoodIn wsL_law wsX6_run_r3 := goodIn_r _ [67, 160, 88, 161, 89, 90, 91, 92, 93, 94, 162, 163, 164, 71, 165, 166, 98, 167, 99, 305, 306, 307, 308, 309] (by decide +kernel) (by decide +kernel)
set_option maxRecDepth 20000 in
theorem ggL_law_X6_run_c4 : GoodIn wsL_law wsX6_run_r4 := goodIn_r _ [310, 311, 312, 278, 279, 280, 281, 274, 275, 276, 277, 282, 283, 284, 285, 286, 287, 199, 288, 313, 290, 291, 292, 314] (by decide +kernel) (by decide +kernel)
set_option maxRecDepth 20000 in
theorem ggL_law_X6_run_c5 : GoodIn wsL_law wsX6_run_r5 := goodIn_r _ [315, 316, 317, 318, 211, 212, 213, 330, 331, 332, 333, 334, 335, 336, 337, 338, 339, 340, 341, 342, 343, 344, 345, 346] (by decide +kernel) (by decide +kernel)
set_option maxRecDepth 20000 in
theorem ggL_law_X6_run_c6 : GoodIn wsL_law wsX6_run_r6 := goodIn_r _ [347, 348, 349, 350, 351, 352] (by decide +kernel) (by decide +kernel)
set_option maxRecDepth 20000 in
theorem ggL_law_X6_run_c7 : GoodIn wsL_law wsX60 := goodIn_r _ [612, 613, 614] (by decide +kernel) (by decide +kernel)
set_option maxRecDepth 20000 in
theorem ggL_law_X6_run_c8 : GoodIn wsL_law wsX40 := goodIn_r _ [615, 616, 617, 618, 619, 620] (by decide +kernel) (by decide +kernel)
set_option maxRecDepth 20000 in
theorem ggL_law_X6_run_c9 : GoodIn wsL_law wsX00 := goodIn_r _ [621, 622, 623] (by decide +kernel) (by decide +kernel)
set_option maxRecDepth 20000 in
theorem ggL_law_X6_run_c10 : GoodIn wsL_law wsX10 := goodIn_r _ [633, 634, 635, 636] (by decide +kernel) (by decide +kernel)
set_option maxRecDepth 20000 in
theorem ggL_law_X6_run_c11 : GoodIn wsL_law wsX50 := goodIn_r _ [637, 638, 639, 640, 641, 642, 643] (by decide +kernel) (by decide +kernel)
set_option maxRecDepth 20000 in
theorem ggL_law_X6_run_c12 : GoodIn wsL_law wsX20 := goodIn_r _ [644, 645, 646] (by decide +kernel) (by decide +kernel)
theorem ggL_law_X6_run : GoodIn wsL_law wsX6_run := by
  intro w h
  rcases List.mem_cons.mp h with h | h
  · exact ggL_law_X6_run_c0 w (List.mem_singleton.mpr h)
  rcases List.mem_append.mp h with h | h
  case inr => exact ggL_law_X6_run_c12 w h
  rcases List.mem_append.mp h with h | h
  case inr => exact ggL_law_X6_run_c11 w h
  rcases List.mem_append.mp h with h | h
  case inr => exact ggL_law_X6_run_c10 w h
  rcases List.mem_append.mp h with h | h
  case inr => exact ggL_law_X6_run_c9 w h
  rcases List.mem_append.mp h with h | h
  case inr => exact ggL_law_X6_run_c8 w h
  rcases List.mem_append.mp h with h | h
  case inr => exact ggL_law_X6_run_c7 w h
  rcases List.mem_append.mp h with h | h
  · exact ggL_law_X6_run_c1 w h
  rcases List.mem_append.mp h with h | h
  · exact ggL_law_X6_run_c2 w h
  rcases List.mem_append.mp h with h | h
  · exact ggL_law_X6_run_c3 w h
  rcases List.mem_append.mp h with h | h
  · exact ggL_law_X6_run_c4 w h
  rcases List.mem_append.mp h with h | h
  · exact ggL_law_X6_run_c5 w h
  exact ggL_law_X6_run_c6 w h
set_option maxRecDepth 20000 in
theorem gL_law_X6_run : GoodIn wsL_law (wsV RL 93 RX6 yX6_run wsX6_run) := goodIn_app (goodIn_of _ (by decide +kernel)) ggL_law_X6_run
set_option maxRecDepth 20000 in
theorem ggL_law_X6_set_c0 : GoodIn wsL_law [.code yX6_set cX6_set 4 (some .int)] := goodIn_r _ [584] (by decide +kernel) (by decide +kernel)
set_option maxRecDepth 20000 in
theorem ggL_law_X6_set_c1 : GoodIn wsL_law wsX6_set_r1 := goodIn_r _ [585, 586, 53, 49, 327, 116, 117, 2, 118, 132, 133, 134, 52, 135, 136, 137, 138, 139, 140, 141, 104, 142, 143, 144] (by decide +kernel) (by decide +kernel)
set_option maxRecDepth 20000 in
theorem ggL_law_X6_set_c2 : GoodIn wsL_law wsX6_set_r2 := goodIn_r _ [48, 145, 64, 68, 72, 74, 146, 147, 148, 149, 150, 151, 152, 153, 154, 63, 155, 123, 78, 156, 79, 80, 157, 158] (by decide +kernel) (by decide +kernel)
set_option maxRecDepth 20000 in
theorem ggL_law_X6_set_c3 : GoodIn wsL_law wsX6_set_r3 := goodIn_r _ [159, 67, 160, 88, 161, 89, 90, 91, 92, 93, 94, 162, 163, 164, 71, 165, 166, 98, 167, 99] (by decide +kernel) (by decide +kernel)
set_option maxRecDepth 20000 in
theorem ggL_law_X6_set_c4 : GoodIn wsL_law wsX60 := goodIn_r _ [612, 613, 614] (by decide +kernel) (by decide +kernel)
set_option maxRecDepth 20000 in
theorem ggL_law_X6_set_c5 : GoodIn wsL_law wsX40 := goodIn_r _ [615, 616, 617, 618, 619, 620] (by decide +kernel) (by decide +kernel)
set_option maxRecDepth 20000 in
theorem ggL_law_X6_set_c6 : GoodIn wsL_law wsX00 := goodIn_r _ [621, 622, 623] (by decide +kernel) (by decide +kernel)
set_option maxRecDepth 20000 in
theorem ggL_law_X6_set_c7 : GoodIn wsL_law wsX10 := goodIn_r _ [633, 634, 635, 636] (by decide +kernel) (by decide +kernel)
set_option maxRecDepth 20000 in
theorem ggL_law_X6_set_c8 : GoodIn wsL_law wsX50 := goodIn_r _ [637, 638, 639, 640, 641, 642, 643] (by decide +kernel) (by decide +kernel)
set_option maxRecDepth 20000 in
theorem ggL_law_X6_set_c9 : GoodIn wsL_law wsX20 := goodIn_r _ [644, 645, 646] (by decide +kernel) (by decide +kernel)
theorem ggL_law_X6_set : GoodIn wsL_law wsX6_set := by
  intro w h
  rcases List.mem_cons.mp h with h | h
  · exact ggL_law_X6_set_c0 w (List.mem_singleton.mpr h)
  rcases List.mem_append.mp h with h | h
  case inr => exact ggL_law_X6_set_c9 w h
  rcases List.mem_append.mp h with h | h
  case inr => exact ggL_law_X6_set_c8 w h
  rcases List.mem_append.mp h with h | h
  case inr => exact ggL_law_X6_set_c7 w h
  rcases List.mem_append.mp h with h | h
  case inr => exact ggL_law_X6_set_c6 w h
  rcases List.mem_append.mp h with h | h
  case inr => exact ggL_law_X6_set_c5 w h
  rcases List.mem_append.mp h with h | h
  case inr => exact ggL_law_X6_set_c4 w h
  rcases List.mem_append.mp h with h | h
  · exact ggL_law_X6_set_c1 w h
  rcases List.mem_append.mp h with h | h
  · exact ggL_law_X6_set_c2 w h
  exact ggL_law_X6_set_c3 w h
set_option maxRecDepth 20000 in
theorem gL_law_X6_set : GoodIn wsL_law (wsV RL 82 RX6 yX6_set wsX6_set) := goodIn_app (goodIn_of _ (by decide +kernel)) ggL_law_X6_set
set_option maxRecDepth 20000 in
theorem ggL_law_X6_damp_c0 : GoodIn wsL_law [.code yX6_damp cX6_damp 3 (some .int)] := goodIn_r _ [537] (by decide +kernel) (by decide +kernel)
set_option maxRecDepth 20000 in
theorem ggL_law_X6_damp_c1 : GoodIn wsL_law wsX6_damp_r1 := goodIn_r _ [53, 49, 323, 418, 253, 2, 254, 116, 117, 118, 132, 133, 134, 52, 135, 136, 137, 138, 139, 140, 141, 104, 142, 143] (by decide +kernel) (by decide +kernel)
set_option maxRecDepth 20000 in
theorem ggL_law_X6_damp_c2 : GoodIn wsL_law wsX6_damp_r2 := goodIn_r _ [144, 48, 145, 64, 68, 72, 74, 146, 147, 148, 149, 150, 151, 152, 153, 154, 63, 155, 123, 78, 156, 79, 80, 157] (by decide +kernel) (by decide +kernel)
set_option maxRecDepth 20000 in
theorem ggL_law_X6_damp_c3 : GoodIn wsL_law wsX6_damp_r3 := goodIn_r _ [158, 159, 67, 160, 88, 161, 89, 90, 91, 92, 93, 94, 162, 163, 164, 71, 165, 166, 98, 167, 99, 533, 335, 336] (by decide +kernel) (by decide +kernel)
set_option maxRecDepth 20000 in
theorem ggL_law_X6_damp_c4 : GoodIn wsL_law wsX6_damp_r4 := goodIn_r _ [337, 338, 339, 340, 341, 313, 290, 291, 292, 342, 343, 344, 345, 346, 347, 348, 349, 350, 351, 352, 538, 207, 208, 209] (by decide +kernel) (by decide +kernel)
set_option maxRecDepth 20000 in
theorem ggL_law_X6_damp_c5 : GoodIn wsL_law wsX6_damp_r5 := goodIn_r _ [210, 211, 212, 213] (by decide +kernel) (by decide +kernel)
set_option maxRecDepth 20000 in
theorem ggL_law_X6_damp_c6 : GoodIn wsL_law wsX60 := goodIn_r _ [612, 613, 614] (by decide +kernel) (by decide +kernel)
set_option maxRecDepth 20000 in
theorem ggL_law_X6_damp_c7 : GoodIn wsL_law wsX40 := goodIn_r _ [615, 616, 617, 618, 619, 620] (by decide +kernel) (by decide +kernel)
set_option maxRecDepth 20000 in
theorem ggL_law_X6_damp_c8 : GoodIn wsL_law wsX00 := goodIn_r _ [621, 622, 623] (by decide +kernel) (by decide +kernel)
set_option maxRecDepth 20000 in
theorem ggL_law_X6_damp_c9 : GoodIn wsL_law wsX10 := goodIn_r _ [633, 634, 635, 636] (by decide +kernel) (by decide +kernel)
set_option maxRecDepth 20000 in
theorem ggL_law_X6_damp_c10 : GoodIn wsL_law wsX50 := goodIn_r _ [637, 638, 639, 640, 641, 642, 643] (by decide +kernel) (by decide +kernel)
set_option maxRecDepth 20000 in
theorem ggL_law_X6_damp_c11 : GoodIn wsL_law wsX20 := goodIn_r _ [644, 645, 646] (by decide +kernel) (by decide +kernel)
theorem ggL_law_X6_damp : GoodIn wsL_law wsX6_damp := by
  intro w h
  rcases List.mem_cons.mp h with h | h
  · exact ggL_law_X6_damp_c0 w (List.mem_singleton.mpr h)
  rcases List.mem_append.mp h with h | h
  case inr => exact ggL_law_X6_damp_c11 w h
  rcases List.mem_append.mp h with h | h
  case inr => exact ggL_law_X6_damp_c10 w h
  rcases List.mem_append.mp h with h | h
  case inr => exact ggL_law_X6_damp_c9 w h
  rcases List.mem_append.mp h with h | h
  case inr => exact ggL_law_X6_damp_c8 w h
  rcases List.mem_append.mp h with h | h
  case inr => exact ggL_law_X6_damp_c7 w h
  rcases List.mem_append.mp h with h | h
  case inr => exact ggL_law_X6_damp_c6 w h
  rcases List.mem_append.mp h with h | h
  · exact ggL_law_X6_damp_c1 w h
  rcases List.mem_append.mp h with h | h
  · exact ggL_law_X6_damp_c2 w h
  rcases List.mem_append.mp h with h | h
  · exact ggL_law_X6_damp_c3 w h
  rcases List.mem_append.mp h with h | h
  · exact ggL_law_X6_damp_c4 w h
  exact ggL_law_X6_damp_c5 w h
set_option maxRecDepth 20000 in
theorem gL_law_X6_damp : GoodIn wsL_law (wsV RL 51 RX6 yX6_damp wsX6_damp) := goodIn_app (goodIn_of _ (by decide +kernel)) ggL_law_X6_damp
set_option maxRecDepth 20000 in
theorem ggL_law_X6_tune_c0 : GoodIn wsL_law [.code yX6_tune cX6_tune 4 (some .int)] := goodIn_r _ [511] (by decide +kernel) (by decide +kernel)
set_option maxRecDepth 20000 in
theorem ggL_law_X6_tune_c1 : GoodIn wsL_law wsX6_tune_r1 := goodIn_r _ [512, 53, 49, 323, 413, 418, 253, 2, 254, 116, 117, 118, 132, 133, 134, 52, 135, 136, 137, 138, 139, 140, 141, 104] (by decide +kernel) (by decide +kernel)
set_option maxRecDepth 20000 in
theorem ggL_law_X6_tune_c2 : GoodIn wsL_law wsX6_tune_r2 := goodIn_r _ [142, 143, 144, 48, 145, 64, 68, 72, 74, 146, 147, 148, 149, 150, 151, 152, 153, 154, 63, 155, 123, 78, 156, 79] (by decide +kernel) (by decide +kernel)
set_option maxRecDepth 20000 in
theorem ggL_law_X6_tune_c3 : GoodIn wsL_law wsX6_tune_r3 := goodIn_r _ [80, 157, 158, 159, 67, 160, 88, 161, 89, 90, 91, 92, 93, 94, 162, 163, 164, 71, 165, 166, 98, 167, 99] (by decide +kernel) (by decide +kernel)
set_option maxRecDepth 20000 in
theorem ggL_law_X6_tune_c4 : GoodIn wsL_law wsX60 := goodIn_r _ [612, 613, 614] (by decide +kernel) (by decide +kernel)
set_option maxRecDepth 20000 in
theorem ggL_law_X6_tune_c5 : GoodIn wsL_law wsX40 := goodIn_r _ [615, 616, 617, 618, 619, 620] (by decide +kernel) (by decide +kernel)
set_option maxRecDepth 20000 in
theorem ggL_law_X6_tune_c6 : GoodIn wsL_law wsX50 := goodIn_r _ [637, 638, 639, 640, 641, 642, 643] (by decide +kernel) (by decide +kernel)
set_option maxRecDepth 20000 in
theorem ggL_law_X6_tune_c7 : GoodIn wsL_law wsX00 := goodIn_r _ [621, 622, 623] (by decide +kernel) (by decide +kernel)
set_option maxRecDepth 20000 in
theorem ggL_law_X6_tune_c8 : GoodIn wsL_law wsX10 := goodIn_r _ [633, 634, 635, 636] (by decide +kernel) (by decide +kernel)
set_option maxRecDepth 20000 in
theorem ggL_law_X6_tune_c9 : GoodIn wsL_law wsX20 := goodIn_r _ [644, 645, 646] (by decide +kernel) (by decide +kernel)
theorem ggL_law_X6_tune : GoodIn wsL_law wsX6_tune := by
  intro w h
  rcases List.mem_cons.mp h with h | h
  · exact ggL_law_X6_tune_c0 w (List.mem_singleton.mpr h)
  rcases List.mem_append.mp h with h | h
  case inr => exact ggL_law_X6_tune_c9 w h
  rcases List.mem_append.mp h with h | h
  case inr => exact ggL_law_X6_tune_c8 w h
  rcases List.mem_append.mp h with h | h
  case inr => exact ggL_law_X6_tune_c7 w h
  rcases List.mem_append.mp h with h | h
  case inr => exact ggL_law_X6_tune_c6 w h
  rcases List.mem_append.mp h with h | h
  case inr => exact ggL_law_X6_tune_c5 w h
  rcases List.mem_append.mp h with h | h
  case inr => exact ggL_law_X6_tune_c4 w h
  rcases List.mem_append.mp h with h | h
  · exact ggL_law_X6_tune_c1 w h
  rcases List.mem_append.mp h with h | h
  · exact ggL_law_X6_tune_c2 w h
  exact ggL_law_X6_tune_c3 w h
set_option maxRecDepth 20000 in
theorem gL_law_X6_tune : GoodIn wsL_law (wsV RL 39 RX6 yX6_tune wsX6_tune) := goodIn_app (goodIn_of _ (by decide +kernel)) ggL_law_X6_tune
