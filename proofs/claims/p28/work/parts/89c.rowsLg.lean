set_option maxRecDepth 20000 in
theorem ggL_refusesStrings_X6_node_c0 : GoodIn wsL_refusesStrings [.code yX6_node cX6_node 4 (some .int)] := goodIn_r _ [250] (by decide +kernel) (by decide +kernel)
set_option maxRecDepth 20000 in
theorem ggL_refusesStrings_X6_node_c1 : GoodIn wsL_refusesStrings wsX6_node_r1 := goodIn_r _ [9, 10, 145, 12, 13, 5, 14, 15, 16, 17, 233, 234, 235, 146, 147, 148, 251, 165, 166, 58, 167, 66, 160, 161] (by decide +kernel) (by decide +kernel)
set_option maxRecDepth 20000 in
theorem ggL_refusesStrings_X6_node_c2 : GoodIn wsL_refusesStrings wsX6_node_r2 := goodIn_r _ [162, 163, 168, 133, 134, 135, 169, 170, 117, 171] (by decide +kernel) (by decide +kernel)
set_option maxRecDepth 20000 in
theorem ggL_refusesStrings_X6_node_c3 : GoodIn wsL_refusesStrings wsX60 := goodIn_r _ [297, 298, 299] (by decide +kernel) (by decide +kernel)
set_option maxRecDepth 20000 in
theorem ggL_refusesStrings_X6_node_c4 : GoodIn wsL_refusesStrings wsX40 := goodIn_r _ [300, 301, 302, 303, 304, 305] (by decide +kernel) (by decide +kernel)
set_option maxRecDepth 20000 in
theorem ggL_refusesStrings_X6_node_c5 : GoodIn wsL_refusesStrings wsX50 := goodIn_r _ [306, 307, 308, 309, 310, 311, 312] (by decide +kernel) (by decide +kernel)
theorem ggL_refusesStrings_X6_node : GoodIn wsL_refusesStrings wsX6_node := by
  intro w h
  rcases List.mem_cons.mp h with h | h
  · exact ggL_refusesStrings_X6_node_c0 w (List.mem_singleton.mpr h)
  rcases List.mem_append.mp h with h | h
  case inr => exact ggL_refusesStrings_X6_node_c5 w h
  rcases List.mem_append.mp h with h | h
  case inr => exact ggL_refusesStrings_X6_node_c4 w h
  rcases List.mem_append.mp h with h | h
  case inr => exact ggL_refusesStrings_X6_node_c3 w h
  rcases List.mem_append.mp h with h | h
  · exact ggL_refusesStrings_X6_node_c1 w h
  exact ggL_refusesStrings_X6_node_c2 w h
set_option maxRecDepth 20000 in
theorem gL_refusesStrings_X6_node : GoodIn wsL_refusesStrings (wsV RL 54 RX6 yX6_node wsX6_node) := goodIn_app (goodIn_of _ (by decide +kernel)) ggL_refusesStrings_X6_node
set_option maxRecDepth 20000 in
theorem ggL_refusesStrings_X6_nodeAgain : GoodIn wsL_refusesStrings wsX6_nodeAgain := goodIn_r _ [255, 9, 10, 145, 12, 13, 5, 14, 15, 16, 17, 233, 234, 235, 146, 147, 148, 256, 257, 258, 58, 259, 66, 168, 133, 134, 135, 245, 246, 297, 298, 299, 300, 301, 302, 303, 304, 305, 306, 307, 308, 309, 310, 311, 312] (by decide +kernel) (by decide +kernel)
set_option maxRecDepth 20000 in
theorem gL_refusesStrings_X6_nodeAgain : GoodIn wsL_refusesStrings (wsV RL 57 RX6 yX6_nodeAgain wsX6_nodeAgain) := goodIn_app (goodIn_of _ (by decide +kernel)) ggL_refusesStrings_X6_nodeAgain
set_option maxRecDepth 20000 in
theorem ggL_refusesStrings_X6_ticksTo_c0 : GoodIn wsL_refusesStrings [.code yX6_ticksTo cX6_ticksTo 3 (some .int)] := goodIn_r _ [263] (by decide +kernel) (by decide +kernel)
set_option maxRecDepth 20000 in
theorem ggL_refusesStrings_X6_ticksTo_c1 : GoodIn wsL_refusesStrings wsX6_ticksTo_r1 := goodIn_r _ [9, 12, 13, 5, 14, 15, 16, 17, 233, 234, 235, 264, 265, 266, 33, 267, 36, 268, 269, 270, 58, 271, 63, 66] (by decide +kernel) (by decide +kernel)
set_option maxRecDepth 20000 in
theorem ggL_refusesStrings_X6_ticksTo_c2 : GoodIn wsL_refusesStrings wsX6_ticksTo_r2 := goodIn_r _ [164, 165, 166, 167, 160, 161, 162, 163, 168, 133, 134, 135, 169, 170, 117, 171, 196, 173, 174, 175, 67, 197, 198, 199] (by decide +kernel) (by decide +kernel)
set_option maxRecDepth 20000 in
theorem ggL_refusesStrings_X6_ticksTo_c3 : GoodIn wsL_refusesStrings wsX6_ticksTo_r3 := goodIn_r _ [200, 38, 272, 273, 274, 275] (by decide +kernel) (by decide +kernel)
set_option maxRecDepth 20000 in
theorem ggL_refusesStrings_X6_ticksTo_c4 : GoodIn wsL_refusesStrings wsX60 := goodIn_r _ [297, 298, 299] (by decide +kernel) (by decide +kernel)
set_option maxRecDepth 20000 in
theorem ggL_refusesStrings_X6_ticksTo_c5 : GoodIn wsL_refusesStrings wsX40 := goodIn_r _ [300, 301, 302, 303, 304, 305] (by decide +kernel) (by decide +kernel)
set_option maxRecDepth 20000 in
theorem ggL_refusesStrings_X6_ticksTo_c6 : GoodIn wsL_refusesStrings wsX50 := goodIn_r _ [306, 307, 308, 309, 310, 311, 312] (by decide +kernel) (by decide +kernel)
theorem ggL_refusesStrings_X6_ticksTo : GoodIn wsL_refusesStrings wsX6_ticksTo := by
  intro w h
  rcases List.mem_cons.mp h with h | h
  · exact ggL_refusesStrings_X6_ticksTo_c0 w (List.mem_singleton.mpr h)
  rcases List.mem_append.mp h with h | h
  case inr => exact ggL_refusesStrings_X6_ticksTo_c6 w h
  rcases List.mem_append.mp h with h | h
  case inr => exact ggL_refusesStrings_X6_ticksTo_c5 w h
  rcases List.mem_append.mp h with h | h
  case inr => exact ggL_refusesStrings_X6_ticksTo_c4 w h
  rcases List.mem_append.mp h with h | h
  · exact ggL_refusesStrings_X6_ticksTo_c1 w h
  rcases List.mem_append.mp h with h | h
  · exact ggL_refusesStrings_X6_ticksTo_c2 w h
  exact ggL_refusesStrings_X6_ticksTo_c3 w h
set_option maxRecDepth 20000 in
theorem gL_refusesStrings_X6_ticksTo : GoodIn wsL_refusesStrings (wsV RL 60 RX6 yX6_ticksTo wsX6_ticksTo) := goodIn_app (goodIn_of _ (by decide +kernel)) ggL_refusesStrings_X6_ticksTo
set_option maxRecDepth 20000 in
theorem ggL_refusesStrings_X6_beat_c0 : GoodIn wsL_refusesStrings [.code yX6_beat cX6_beat 6 (some .int)] := goodIn_r _ [279] (by decide +kernel) (by decide +kernel)
set_option maxRecDepth 20000 in
theorem ggL_refusesStrings_X6_beat_c1 : GoodIn wsL_refusesStrings wsX6_beat_r1 := goodIn_r _ [9, 12, 13, 5, 14, 15, 16, 17, 233, 234, 235, 280, 281, 282, 33, 283, 36, 284, 285, 162, 286, 196, 173, 174] (by decide +kernel) (by decide +kernel)
set_option maxRecDepth 20000 in
theorem ggL_refusesStrings_X6_beat_c2 : GoodIn wsL_refusesStrings wsX6_beat_r2 := goodIn_r _ [58, 175, 67, 197, 198, 199, 200, 38, 287, 238, 239, 240, 60, 168, 133, 134, 135, 66] (by decide +kernel) (by decide +kernel)
set_option maxRecDepth 20000 in
theorem ggL_refusesStrings_X6_beat_c3 : GoodIn wsL_refusesStrings wsX60 := goodIn_r _ [297, 298, 299] (by decide +kernel) (by decide +kernel)
set_option maxRecDepth 20000 in
theorem ggL_refusesStrings_X6_beat_c4 : GoodIn wsL_refusesStrings wsX40 := goodIn_r _ [300, 301, 302, 303, 304, 305] (by decide +kernel) (by decide +kernel)
set_option maxRecDepth 20000 in
theorem ggL_refusesStrings_X6_beat_c5 : GoodIn wsL_refusesStrings wsX50 := goodIn_r _ [306, 307, 308, 309, 310, 311, 312] (by decide +kernel) (by decide +kernel)
theorem ggL_refusesStrings_X6_beat : GoodIn wsL_refusesStrings wsX6_beat := by
  intro w h
  rcases List.mem_cons.mp h with h | h
  · exact ggL_refusesStrings_X6_beat_c0 w (List.mem_singleton.mpr h)
  rcases List.mem_append.mp h with h | h
  case inr => exact ggL_refusesStrings_X6_beat_c5 w h
  rcases List.mem_append.mp h with h | h
  case inr => exact ggL_refusesStrings_X6_beat_c4 w h
  rcases List.mem_append.mp h with h | h
  case inr => exact ggL_refusesStrings_X6_beat_c3 w h
  rcases List.mem_append.mp h with h | h
  · exact ggL_refusesStrings_X6_beat_c1 w h
  exact ggL_refusesStrings_X6_beat_c2 w h
set_option maxRecDepth 20000 in
theorem gL_refusesStrings_X6_beat : GoodIn wsL_refusesStrings (wsV RL 63 RX6 yX6_beat wsX6_beat) := goodIn_app (goodIn_of _ (by decide +kernel)) ggL_refusesStrings_X6_beat
set_option maxRecDepth 20000 in
theorem ggL_refusesStrings_X6_slowest_c0 : GoodIn wsL_refusesStrings [.code yX6_slowest cX6_slowest 4 (some .int)] := goodIn_r _ [291] (by decide +kernel) (by decide +kernel)
set_option maxRecDepth 20000 in
theorem ggL_refusesStrings_X6_slowest_c1 : GoodIn wsL_refusesStrings wsX6_slowest_r1 := goodIn_r _ [9, 12, 13, 5, 14, 15, 16, 17, 292, 293, 294, 33, 295, 296, 281, 282, 283, 36, 284, 285, 162, 286, 196, 173] (by decide +kernel) (by decide +kernel)
set_option maxRecDepth 20000 in
theorem ggL_refusesStrings_X6_slowest_c2 : GoodIn wsL_refusesStrings wsX6_slowest_r2 := goodIn_r _ [174, 58, 175, 67, 197, 198, 199, 200, 38, 287, 238, 239, 240, 60, 168, 133, 134, 135, 66] (by decide +kernel) (by decide +kernel)
set_option maxRecDepth 20000 in
theorem ggL_refusesStrings_X6_slowest_c3 : GoodIn wsL_refusesStrings wsX60 := goodIn_r _ [297, 298, 299] (by decide +kernel) (by decide +kernel)
set_option maxRecDepth 20000 in
theorem ggL_refusesStrings_X6_slowest_c4 : GoodIn wsL_refusesStrings wsX40 := goodIn_r _ [300, 301, 302, 303, 304, 305] (by decide +kernel) (by decide +kernel)
set_option maxRecDepth 20000 in
theorem ggL_refusesStrings_X6_slowest_c5 : GoodIn wsL_refusesStrings wsX50 := goodIn_r _ [306, 307, 308, 309, 310, 311, 312] (by decide +kernel) (by decide +kernel)
theorem ggL_refusesStrings_X6_slowest : GoodIn wsL_refusesStrings wsX6_slowest := by
  intro w h
  rcases List.mem_cons.mp h with h | h
  · exact ggL_refusesStrings_X6_slowest_c0 w (List.mem_singleton.mpr h)
  rcases List.mem_append.mp h with h | h
  case inr => exact ggL_refusesStrings_X6_slowest_c5 w h
  rcases List.mem_append.mp h with h | h
  case inr => exact ggL_refusesStrings_X6_slowest_c4 w h
  rcases List.mem_append.mp h with h | h
  case inr => exact ggL_refusesStrings_X6_slowest_c3 w h
  rcases List.mem_append.mp h with h | h
  · exact ggL_refusesStrings_X6_slowest_c1 w h
  exact ggL_refusesStrings_X6_slowest_c2 w h
set_option maxRecDepth 20000 in
theorem gL_refusesStrings_X6_slowest : GoodIn wsL_refusesStrings (wsV RL 67 RX6 yX6_slowest wsX6_slowest) := goodIn_app (goodIn_of _ (by decide +kernel)) ggL_refusesStrings_X6_slowest
set_option maxRecDepth 20000 in
theorem ggL_refused_L_state_c0 : GoodIn wsL_refused [.code yL_state cL_state 4 (some .long)] := goodIn_r _ [6] (by decide +kernel) (by decide +kernel)
set_option maxRecDepth 20000 in
theorem ggL_refused_L_state_c1 : GoodIn wsL_refused wsL_state_r1 := goodIn_r _ [7, 8, 9, 10, 11, 12, 13, 14, 15, 16, 17, 18, 19, 20, 21, 22, 23, 24, 25, 26, 27, 28, 29, 30] (by decide +kernel) (by decide +kernel)
set_option maxRecDepth 20000 in
theorem ggL_refused_L_state_c2 : GoodIn wsL_refused wsL_state_r2 := goodIn_r _ [31, 32, 33, 34, 35, 36, 37, 38, 39, 40, 41, 42, 43, 44, 45, 46, 47, 48, 49, 50, 51, 52, 53, 54] (by decide +kernel) (by decide +kernel)
set_option maxRecDepth 20000 in
theorem ggL_refused_L_state_c3 : GoodIn wsL_refused wsL_state_r3 := goodIn_r _ [55, 56, 57, 58, 59, 60, 61, 62, 63, 64, 65, 66, 67, 68, 69, 70, 71, 72, 73, 74, 5, 75, 76, 77] (by decide +kernel) (by decide +kernel)
set_option maxRecDepth 20000 in
theorem ggL_refused_L_state_c4 : GoodIn wsL_refused wsL_state_r4 := goodIn_r _ [78, 79, 80, 81, 82, 83, 84, 85, 86, 87, 88, 89, 90, 91, 92, 93, 94, 95, 96, 97, 98, 99, 100, 101] (by decide +kernel) (by decide +kernel)
set_option maxRecDepth 20000 in
theorem ggL_refused_L_state_c5 : GoodIn wsL_refused wsL_state_r5 := goodIn_r _ [102, 103, 104, 105, 106, 107, 108, 109, 110, 111, 112, 113, 114, 115, 116, 117, 118, 119, 120, 121, 122, 123, 124, 125] (by decide +kernel) (by decide +kernel)
set_option maxRecDepth 20000 in
theorem ggL_refused_L_state_c6 : GoodIn wsL_refused wsL_state_r6 := goodIn_r _ [126, 127, 128, 129, 130, 131, 132, 133, 134, 135, 136, 137, 138, 139, 140, 141, 142, 143, 144, 145, 146, 147, 148, 149] (by decide +kernel) (by decide +kernel)
set_option maxRecDepth 20000 in
theorem ggL_refused_L_state_c7 : GoodIn wsL_refused wsL_state_r7 := goodIn_r _ [150, 151, 152, 153, 154, 155, 156, 157, 158, 159, 160, 161, 162, 163, 164, 165, 166, 167, 168, 169, 170, 171, 172, 173] (by decide +kernel) (by decide +kernel)
set_option maxRecDepth 20000 in
theorem ggL_refused_L_state_c8 : GoodIn wsL_refused wsL_state_r8 := goodIn_r _ [174, 175, 176, 177, 178, 179, 180, 181, 182, 183, 184, 185, 186, 187, 188, 189, 190, 191, 192, 193, 194, 195, 196, 197] (by decide +kernel) (by decide +kernel)
set_option maxRecDepth 20000 in
theorem ggL_refused_L_state_c9 : GoodIn wsL_refused wsL_state_r9 := goodIn_r _ [198] (by decide +kernel) (by decide +kernel)
set_option maxRecDepth 20000 in
theorem ggL_refused_L_state_c10 : GoodIn wsL_refused wsX60 := goodIn_r _ [482, 483, 484] (by decide +kernel) (by decide +kernel)
set_option maxRecDepth 20000 in
theorem ggL_refused_L_state_c11 : GoodIn wsL_refused wsX40 := goodIn_r _ [485, 486, 487, 488, 489, 490] (by decide +kernel) (by decide +kernel)
set_option maxRecDepth 20000 in
theorem ggL_refused_L_state_c12 : GoodIn wsL_refused wsX10 := goodIn_r _ [491, 492, 493, 494] (by decide +kernel) (by decide +kernel)
set_option maxRecDepth 20000 in
theorem ggL_refused_L_state_c13 : GoodIn wsL_refused wsX20 := goodIn_r _ [495, 496, 497] (by decide +kernel) (by decide +kernel)
set_option maxRecDepth 20000 in
theorem ggL_refused_L_state_c14 : GoodIn wsL_refused wsX00 := goodIn_r _ [498, 499, 500] (by decide +kernel) (by decide +kernel)
set_option maxRecDepth 20000 in
theorem ggL_refused_L_state_c15 : GoodIn wsL_refused wsX30 := goodIn_r _ [501, 502, 503, 504, 505, 506, 507, 508, 509] (by decide +kernel) (by decide +kernel)
set_option maxRecDepth 20000 in
theorem ggL_refused_L_state_c16 : GoodIn wsL_refused wsX50 := goodIn_r _ [510, 511, 512, 513, 514, 515, 516] (by decide +kernel) (by decide +kernel)
theorem ggL_refused_L_state : GoodIn wsL_refused wsL_state := by
  intro w h
  rcases List.mem_cons.mp h with h | h
  · exact ggL_refused_L_state_c0 w (List.mem_singleton.mpr h)
  rcases List.mem_append.mp h with h | h
  case inr => exact ggL_refused_L_state_c16 w h
  rcases List.mem_append.mp h with h | h
  case inr => exact ggL_refused_L_state_c15 w h
  rcases List.mem_append.mp h with h | h
  case inr => exact ggL_refused_L_state_c14 w h
  rcases List.mem_append.mp h with h | h
  case inr => exact ggL_refused_L_state_c13 w h
  rcases List.mem_append.mp h with h | h
  case inr => exact ggL_refused_L_state_c12 w h
  rcases List.mem_append.mp h with h | h
  case inr => exact ggL_refused_L_state_c11 w h
  rcases List.mem_append.mp h with h | h
  case inr => exact ggL_refused_L_state_c10 w h
  rcases List.mem_append.mp h with h | h
  · exact ggL_refused_L_state_c1 w h
  rcases List.mem_append.mp h with h | h
  · exact ggL_refused_L_state_c2 w h
  rcases List.mem_append.mp h with h | h
  · exact ggL_refused_L_state_c3 w h
  rcases List.mem_append.mp h with h | h
  · exact ggL_refused_L_state_c4 w h
  rcases List.mem_append.mp h with h | h
  · exact ggL_refused_L_state_c5 w h
  rcases List.mem_append.mp h with h | h
  · exact ggL_refused_L_state_c6 w h
  rcases List.mem_append.mp h with h | h
  · exact ggL_refused_L_state_c7 w h
  rcases List.mem_append.mp h with h | h
  · exact ggL_refused_L_state_c8 w h
  exact ggL_refused_L_state_c9 w h
set_option maxRecDepth 20000 in
theorem gL_refused_L_state : GoodIn wsL_refused (va_wsS RL 71 yL_state wsL_state) := goodIn_app (goodIn_of _ (by decide +kernel)) ggL_refused_L_state
set_option maxRecDepth 20000 in
theorem ggL_refused_X6_count_c0 : GoodIn wsL_refused [.code yX6_count cX6_count 2 (some .int)] := goodIn_r _ [12] (by decide +kernel) (by decide +kernel)
set_option maxRecDepth 20000 in
theorem ggL_refused_X6_count_c1 : GoodIn wsL_refused wsX6_count_r1 := goodIn_r _ [13, 14, 15, 16, 17, 18, 19, 20, 21, 22, 23, 24, 25, 26, 27, 28, 29, 30, 31, 32, 33, 34, 35, 36] (by decide +kernel) (by decide +kernel)
set_option maxRecDepth 20000 in
theorem ggL_refused_X6_count_c2 : GoodIn wsL_refused wsX6_count_r2 := goodIn_r _ [37, 38, 39, 40, 41, 42, 43, 44, 45, 46, 47, 48, 49, 50, 51, 52, 53, 54, 55, 56, 57, 58, 59, 60] (by decide +kernel) (by decide +kernel)
set_option maxRecDepth 20000 in
theorem ggL_refused_X6_count_c3 : GoodIn wsL_refused wsX6_count_r3 := goodIn_r _ [61, 62, 63, 64, 65, 66, 67, 68, 69, 70, 71, 72] (by decide +kernel) (by decide +kernel)
set_option maxRecDepth 20000 in
theorem ggL_refused_X6_count_c4 : GoodIn wsL_refused wsX60 := goodIn_r _ [482, 483, 484] (by decide +kernel) (by decide +kernel)
set_option maxRecDepth 20000 in
theorem ggL_refused_X6_count_c5 : GoodIn wsL_refused wsX40 := goodIn_r _ [485, 486, 487, 488, 489, 490] (by decide +kernel) (by decide +kernel)
set_option maxRecDepth 20000 in
theorem ggL_refused_X6_count_c6 : GoodIn wsL_refused wsX10 := goodIn_r _ [491, 492, 493, 494] (by decide +kernel) (by decide +kernel)
set_option maxRecDepth 20000 in
theorem ggL_refused_X6_count_c7 : GoodIn wsL_refused wsX20 := goodIn_r _ [495, 496, 497] (by decide +kernel) (by decide +kernel)
set_option maxRecDepth 20000 in
theorem ggL_refused_X6_count_c8 : GoodIn wsL_refused wsX00 := goodIn_r _ [498, 499, 500] (by decide +kernel) (by decide +kernel)
set_option maxRecDepth 20000 in
theorem ggL_refused_X6_count_c9 : GoodIn wsL_refused wsX30 := goodIn_r _ [501, 502, 503, 504, 505, 506, 507, 508, 509] (by decide +kernel) (by decide +kernel)
set_option maxRecDepth 20000 in
theorem ggL_refused_X6_count_c10 : GoodIn wsL_refused wsX50 := goodIn_r _ [510, 511, 512, 513, 514, 515, 516] (by decide +kernel) (by decide +kernel)
theorem ggL_refused_X6_count : GoodIn wsL_refused wsX6_count := by
  intro w h
  rcases List.mem_cons.mp h with h | h
  · exact ggL_refused_X6_count_c0 w (List.mem_singleton.mpr h)
  rcases List.mem_append.mp h with h | h
  case inr => exact ggL_refused_X6_count_c10 w h
  rcases List.mem_append.mp h with h | h
  case inr => exact ggL_refused_X6_count_c9 w h
  rcases List.mem_append.mp h with h | h
  case inr => exact ggL_refused_X6_count_c8 w h
  rcases List.mem_append.mp h with h | h
  case inr => exact ggL_refused_X6_count_c7 w h
  rcases List.mem_append.mp h with h | h
  case inr => exact ggL_refused_X6_count_c6 w h
  rcases List.mem_append.mp h with h | h
  case inr => exact ggL_refused_X6_count_c5 w h
  rcases List.mem_append.mp h with h | h
  case inr => exact ggL_refused_X6_count_c4 w h
  rcases List.mem_append.mp h with h | h
  · exact ggL_refused_X6_count_c1 w h
  rcases List.mem_append.mp h with h | h
  · exact ggL_refused_X6_count_c2 w h
  exact ggL_refused_X6_count_c3 w h
set_option maxRecDepth 20000 in
theorem gL_refused_X6_count : GoodIn wsL_refused (wsV RL 13 RX6 yX6_count wsX6_count) := goodIn_app (goodIn_of _ (by decide +kernel)) ggL_refused_X6_count
set_option maxRecDepth 20000 in
theorem ggL_refused_L_mixed : GoodIn wsL_refused wsL_mixed := goodIn_r _ [75, 76] (by decide +kernel) (by decide +kernel)
set_option maxRecDepth 20000 in
theorem gL_refused_L_mixed : GoodIn wsL_refused (va_wsS RL 19 yL_mixed wsL_mixed) := goodIn_app (goodIn_of _ (by decide +kernel)) ggL_refused_L_mixed
