set_option maxRecDepth 20000 in
theorem ggL_known_X6_modeInfo_c0 : GoodIn wsL_known [.code yX6_modeInfo cX6_modeInfo 4 (some .int)] := goodIn_r _ [225] (by decide +kernel) (by decide +kernel)
set_option maxRecDepth 20000 in
theorem ggL_known_X6_modeInfo_c1 : GoodIn wsL_known wsX6_modeInfo_r1 := goodIn_r _ [21, 99, 207, 208, 3, 209, 210, 158, 159, 226, 227, 228, 229, 119, 120, 39, 121, 66, 230, 231, 232, 233, 60, 234] (by decide +kernel) (by decide +kernel)
set_option maxRecDepth 20000 in
theorem ggL_known_X6_modeInfo_c2 : GoodIn wsL_known wsX6_modeInfo_r2 := goodIn_r _ [213, 214, 215, 65, 235, 236, 237, 238, 239, 240] (by decide +kernel) (by decide +kernel)
set_option maxRecDepth 20000 in
theorem ggL_known_X6_modeInfo_c3 : GoodIn wsL_known wsX60 := goodIn_r _ [545, 546, 547] (by decide +kernel) (by decide +kernel)
set_option maxRecDepth 20000 in
theorem ggL_known_X6_modeInfo_c4 : GoodIn wsL_known wsX40 := goodIn_r _ [548, 549, 550, 551, 552, 553] (by decide +kernel) (by decide +kernel)
set_option maxRecDepth 20000 in
theorem ggL_known_X6_modeInfo_c5 : GoodIn wsL_known wsX50 := goodIn_r _ [570, 571, 572, 573, 574, 575, 576] (by decide +kernel) (by decide +kernel)
theorem ggL_known_X6_modeInfo : GoodIn wsL_known wsX6_modeInfo := by
  intro w h
  rcases List.mem_cons.mp h with h | h
  · exact ggL_known_X6_modeInfo_c0 w (List.mem_singleton.mpr h)
  rcases List.mem_append.mp h with h | h
  case inr => exact ggL_known_X6_modeInfo_c5 w h
  rcases List.mem_append.mp h with h | h
  case inr => exact ggL_known_X6_modeInfo_c4 w h
  rcases List.mem_append.mp h with h | h
  case inr => exact ggL_known_X6_modeInfo_c3 w h
  rcases List.mem_append.mp h with h | h
  · exact ggL_known_X6_modeInfo_c1 w h
  exact ggL_known_X6_modeInfo_c2 w h
set_option maxRecDepth 20000 in
theorem gL_known_X6_modeInfo : GoodIn wsL_known (wsV RL 32 RX6 yX6_modeInfo wsX6_modeInfo) := goodIn_app (goodIn_of _ (by decide +kernel)) ggL_known_X6_modeInfo
set_option maxRecDepth 20000 in
theorem ggL_known_X6_node_c0 : GoodIn wsL_known [.code yX6_node cX6_node 4 (some .int)] := goodIn_r _ [391] (by decide +kernel) (by decide +kernel)
set_option maxRecDepth 20000 in
theorem ggL_known_X6_node_c1 : GoodIn wsL_known wsX6_node_r1 := goodIn_r _ [21, 99, 345, 207, 208, 3, 209, 210, 158, 159, 226, 227, 228, 346, 347, 348, 392, 364, 365, 39, 366, 65, 359, 360] (by decide +kernel) (by decide +kernel)
set_option maxRecDepth 20000 in
theorem ggL_known_X6_node_c2 : GoodIn wsL_known wsX6_node_r2 := goodIn_r _ [361, 362, 234, 213, 214, 215, 367, 368, 196, 369] (by decide +kernel) (by decide +kernel)
set_option maxRecDepth 20000 in
theorem ggL_known_X6_node_c3 : GoodIn wsL_known wsX60 := goodIn_r _ [545, 546, 547] (by decide +kernel) (by decide +kernel)
set_option maxRecDepth 20000 in
theorem ggL_known_X6_node_c4 : GoodIn wsL_known wsX40 := goodIn_r _ [548, 549, 550, 551, 552, 553] (by decide +kernel) (by decide +kernel)
set_option maxRecDepth 20000 in
theorem ggL_known_X6_node_c5 : GoodIn wsL_known wsX50 := goodIn_r _ [570, 571, 572, 573, 574, 575, 576] (by decide +kernel) (by decide +kernel)
theorem ggL_known_X6_node : GoodIn wsL_known wsX6_node := by
  intro w h
  rcases List.mem_cons.mp h with h | h
  · exact ggL_known_X6_node_c0 w (List.mem_singleton.mpr h)
  rcases List.mem_append.mp h with h | h
  case inr => exact ggL_known_X6_node_c5 w h
  rcases List.mem_append.mp h with h | h
  case inr => exact ggL_known_X6_node_c4 w h
  rcases List.mem_append.mp h with h | h
  case inr => exact ggL_known_X6_node_c3 w h
  rcases List.mem_append.mp h with h | h
  · exact ggL_known_X6_node_c1 w h
  exact ggL_known_X6_node_c2 w h
set_option maxRecDepth 20000 in
theorem gL_known_X6_node : GoodIn wsL_known (wsV RL 54 RX6 yX6_node wsX6_node) := goodIn_app (goodIn_of _ (by decide +kernel)) ggL_known_X6_node
set_option maxRecDepth 20000 in
theorem ggL_known_X6_nodeAgain : GoodIn wsL_known wsX6_nodeAgain := goodIn_r _ [396, 21, 99, 345, 207, 208, 3, 209, 210, 158, 159, 226, 227, 228, 346, 347, 348, 397, 398, 399, 39, 400, 65, 234, 213, 214, 215, 239, 240, 545, 546, 547, 548, 549, 550, 551, 552, 553, 570, 571, 572, 573, 574, 575, 576] (by decide +kernel) (by decide +kernel)
set_option maxRecDepth 20000 in
theorem gL_known_X6_nodeAgain : GoodIn wsL_known (wsV RL 57 RX6 yX6_nodeAgain wsX6_nodeAgain) := goodIn_app (goodIn_of _ (by decide +kernel)) ggL_known_X6_nodeAgain
set_option maxRecDepth 20000 in
theorem ggL_known_X6_pluck_c0 : GoodIn wsL_known [.code yX6_pluck cX6_pluck 4 (some .int)] := goodIn_r _ [344] (by decide +kernel) (by decide +kernel)
set_option maxRecDepth 20000 in
theorem ggL_known_X6_pluck_c1 : GoodIn wsL_known wsX6_pluck_r1 := goodIn_r _ [21, 99, 345, 25, 207, 208, 3, 209, 210, 158, 159, 346, 347, 348, 271, 272, 273, 24, 274, 275, 276, 277, 278, 279] (by decide +kernel) (by decide +kernel)
set_option maxRecDepth 20000 in
theorem ggL_known_X6_pluck_c2 : GoodIn wsL_known wsX6_pluck_r2 := goodIn_r _ [280, 76, 281, 282, 283, 20, 284, 36, 40, 44, 46, 285, 286, 287, 288, 289, 290, 291, 292, 293, 35, 294, 157, 50] (by decide +kernel) (by decide +kernel)
set_option maxRecDepth 20000 in
theorem ggL_known_X6_pluck_c3 : GoodIn wsL_known wsX6_pluck_r3 := goodIn_r _ [295, 51, 52, 296, 297, 298, 39, 299, 60, 300, 61, 62, 63, 64, 65, 66, 301, 302, 303, 43, 304, 253, 70, 305] (by decide +kernel) (by decide +kernel)
set_option maxRecDepth 20000 in
theorem ggL_known_X6_pluck_c4 : GoodIn wsL_known wsX6_pluck_r4 := goodIn_r _ [71, 349, 350, 351, 352, 318, 353, 354, 355, 356, 357, 358, 56, 359, 360, 361, 362, 363, 364, 365, 366, 234, 213, 214] (by decide +kernel) (by decide +kernel)
set_option maxRecDepth 20000 in
theorem ggL_known_X6_pluck_c5 : GoodIn wsL_known wsX6_pluck_r5 := goodIn_r _ [215, 367, 368, 196, 369, 221, 119, 120, 121, 333, 334, 335, 336, 370, 371, 372, 373, 374, 375, 376, 377, 378, 379, 380] (by decide +kernel) (by decide +kernel)
set_option maxRecDepth 20000 in
theorem ggL_known_X6_pluck_c6 : GoodIn wsL_known wsX6_pluck_r6 := goodIn_r _ [381, 164, 154, 155, 156, 319, 320, 321, 322, 323, 185, 186, 187, 188, 166, 167, 168, 189, 161, 162, 163, 190, 191, 192] (by decide +kernel) (by decide +kernel)
set_option maxRecDepth 20000 in
theorem ggL_known_X6_pluck_c7 : GoodIn wsL_known wsX6_pluck_r7 := goodIn_r _ [193, 194, 195, 197, 324, 325, 326, 327, 328, 329, 330, 331, 332, 382, 111, 112, 113, 114, 115, 116, 117, 118, 122, 123] (by decide +kernel) (by decide +kernel)
set_option maxRecDepth 20000 in
theorem ggL_known_X6_pluck_c8 : GoodIn wsL_known wsX6_pluck_r8 := goodIn_r _ [124, 125, 126, 127, 128, 129, 130, 131, 132] (by decide +kernel) (by decide +kernel)
set_option maxRecDepth 20000 in
theorem ggL_known_X6_pluck_c9 : GoodIn wsL_known wsX60 := goodIn_r _ [545, 546, 547] (by decide +kernel) (by decide +kernel)
set_option maxRecDepth 20000 in
theorem ggL_known_X6_pluck_c10 : GoodIn wsL_known wsX40 := goodIn_r _ [548, 549, 550, 551, 552, 553] (by decide +kernel) (by decide +kernel)
set_option maxRecDepth 20000 in
theorem ggL_known_X6_pluck_c11 : GoodIn wsL_known wsX50 := goodIn_r _ [570, 571, 572, 573, 574, 575, 576] (by decide +kernel) (by decide +kernel)
set_option maxRecDepth 20000 in
theorem ggL_known_X6_pluck_c12 : GoodIn wsL_known wsX00 := goodIn_r _ [554, 555, 556] (by decide +kernel) (by decide +kernel)
set_option maxRecDepth 20000 in
theorem ggL_known_X6_pluck_c13 : GoodIn wsL_known wsX10 := goodIn_r _ [566, 567, 568, 569] (by decide +kernel) (by decide +kernel)
set_option maxRecDepth 20000 in
theorem ggL_known_X6_pluck_c14 : GoodIn wsL_known wsX20 := goodIn_r _ [577, 578, 579] (by decide +kernel) (by decide +kernel)
theorem ggL_known_X6_pluck : GoodIn wsL_known wsX6_pluck := by
  intro w h
  rcases List.mem_cons.mp h with h | h
  · exact ggL_known_X6_pluck_c0 w (List.mem_singleton.mpr h)
  rcases List.mem_append.mp h with h | h
  case inr => exact ggL_known_X6_pluck_c14 w h
  rcases List.mem_append.mp h with h | h
  case inr => exact ggL_known_X6_pluck_c13 w h
  rcases List.mem_append.mp h with h | h
  case inr => exact ggL_known_X6_pluck_c12 w h
  rcases List.mem_append.mp h with h | h
  case inr => exact ggL_known_X6_pluck_c11 w h
  rcases List.mem_append.mp h with h | h
  case inr => exact ggL_known_X6_pluck_c10 w h
  rcases List.mem_append.mp h with h | h
  case inr => exact ggL_known_X6_pluck_c9 w h
  rcases List.mem_append.mp h with h | h
  · exact ggL_known_X6_pluck_c1 w h
  rcases List.mem_append.mp h with h | h
  · exact ggL_known_X6_pluck_c2 w h
  rcases List.mem_append.mp h with h | h
  · exact ggL_known_X6_pluck_c3 w h
  rcases List.mem_append.mp h with h | h
  · exact ggL_known_X6_pluck_c4 w h
  rcases List.mem_append.mp h with h | h
  · exact ggL_known_X6_pluck_c5 w h
  rcases List.mem_append.mp h with h | h
  · exact ggL_known_X6_pluck_c6 w h
  rcases List.mem_append.mp h with h | h
  · exact ggL_known_X6_pluck_c7 w h
  exact ggL_known_X6_pluck_c8 w h
set_option maxRecDepth 20000 in
theorem gL_known_X6_pluck : GoodIn wsL_known (wsV RL 48 RX6 yX6_pluck wsX6_pluck) := goodIn_app (goodIn_of _ (by decide +kernel)) ggL_known_X6_pluck
set_option maxRecDepth 20000 in
theorem ggL_known_X6_run_c0 : GoodIn wsL_known [.code yX6_run cX6_run 2 (some .int)] := goodIn_r _ [484] (by decide +kernel) (by decide +kernel)
set_option maxRecDepth 20000 in
theorem ggL_known_X6_run_c1 : GoodIn wsL_known wsX6_run_r1 := goodIn_r _ [21, 98, 485, 25, 210, 158, 3, 159, 271, 272, 273, 24, 274, 275, 276, 277, 278, 279, 280, 76, 281, 282, 283, 20] (by decide +kernel) (by decide +kernel)
set_option maxRecDepth 20000 in
theorem ggL_known_X6_run_c2 : GoodIn wsL_known wsX6_run_r2 := goodIn_r _ [284, 36, 40, 44, 46, 285, 286, 287, 288, 289, 290, 291, 292, 293, 35, 294, 157, 50, 295, 51, 52, 296, 297, 298] (by decide +kernel) (by decide +kernel)
set_option maxRecDepth 20000 in
theorem ggL_known_X6_run_c3 : GoodIn wsL_known wsX6_run_r3 := goodIn_r _ [39, 299, 60, 300, 61, 62, 63, 64, 65, 66, 301, 302, 303, 43, 304, 253, 70, 305, 71, 486, 487, 488, 489, 409] (by decide +kernel) (by decide +kernel)
set_option maxRecDepth 20000 in
theorem ggL_known_X6_run_c4 : GoodIn wsL_known wsX6_run_r4 := goodIn_r _ [410, 411, 412, 363, 364, 365, 366, 359, 360, 361, 362, 234, 213, 214, 215, 367, 368, 196, 369, 118, 119, 120, 121, 413] (by decide +kernel) (by decide +kernel)
set_option maxRecDepth 20000 in
theorem ggL_known_X6_run_c5 : GoodIn wsL_known wsX6_run_r5 := goodIn_r _ [414, 415, 416, 490, 334, 335, 336, 106, 107, 108, 109, 110, 111, 112, 113, 114, 115, 116, 117, 122, 123, 124, 125, 126] (by decide +kernel) (by decide +kernel)
set_option maxRecDepth 20000 in
theorem ggL_known_X6_run_c6 : GoodIn wsL_known wsX6_run_r6 := goodIn_r _ [127, 128, 129, 130, 131, 132] (by decide +kernel) (by decide +kernel)
set_option maxRecDepth 20000 in
theorem ggL_known_X6_run_c7 : GoodIn wsL_known wsX60 := goodIn_r _ [545, 546, 547] (by decide +kernel) (by decide +kernel)
set_option maxRecDepth 20000 in
theorem ggL_known_X6_run_c8 : GoodIn wsL_known wsX40 := goodIn_r _ [548, 549, 550, 551, 552, 553] (by decide +kernel) (by decide +kernel)
set_option maxRecDepth 20000 in
theorem ggL_known_X6_run_c9 : GoodIn wsL_known wsX00 := goodIn_r _ [554, 555, 556] (by decide +kernel) (by decide +kernel)
set_option maxRecDepth 20000 in
theorem ggL_known_X6_run_c10 : GoodIn wsL_known wsX10 := goodIn_r _ [566, 567, 568, 569] (by decide +kernel) (by decide +kernel)
set_option maxRecDepth 20000 in
theorem ggL_known_X6_run_c11 : GoodIn wsL_known wsX50 := goodIn_r _ [570, 571, 572, 573, 574, 575, 576] (by decide +kernel) (by decide +kernel)
set_option maxRecDepth 20000 in
theorem ggL_known_X6_run_c12 : GoodIn wsL_known wsX20 := goodIn_r _ [577, 578, 579] (by decide +kernel) (by decide +kernel)
theorem ggL_known_X6_run : GoodIn wsL_known wsX6_run := by
  intro w h
  rcases List.mem_cons.mp h with h | h
  · exact ggL_known_X6_run_c0 w (List.mem_singleton.mpr h)
  rcases List.mem_append.mp h with h | h
  case inr => exact ggL_known_X6_run_c12 w h
  rcases List.mem_append.mp h with h | h
  case inr => exact ggL_known_X6_run_c11 w h
  rcases List.mem_append.mp h with h | h
  case inr => exact ggL_known_X6_run_c10 w h
  rcases List.mem_append.mp h with h | h
  case inr => exact ggL_known_X6_run_c9 w h
  rcases List.mem_append.mp h with h | h
  case inr => exact ggL_known_X6_run_c8 w h
  rcases List.mem_append.mp h with h | h
  case inr => exact ggL_known_X6_run_c7 w h
  rcases List.mem_append.mp h with h | h
  · exact ggL_known_X6_run_c1 w h
  rcases List.mem_append.mp h with h | h
  · exact ggL_known_X6_run_c2 w h
  rcases List.mem_append.mp h with h | h
  · exact ggL_known_X6_run_c3 w h
  rcases List.mem_append.mp h with h | h
  · exact ggL_known_X6_run_c4 w h
  rcases List.mem_append.mp h with h | h
  · exact ggL_known_X6_run_c5 w h
  exact ggL_known_X6_run_c6 w h
set_option maxRecDepth 20000 in
theorem gL_known_X6_run : GoodIn wsL_known (wsV RL 93 RX6 yX6_run wsX6_run) := goodIn_app (goodIn_of _ (by decide +kernel)) ggL_known_X6_run
set_option maxRecDepth 20000 in
theorem ggL_known_X6_touch_c0 : GoodIn wsL_known [.code yX6_touch cX6_touch 4 (some .int)] := goodIn_r _ [340] (by decide +kernel) (by decide +kernel)
set_option maxRecDepth 20000 in
theorem ggL_known_X6_touch_c1 : GoodIn wsL_known wsX6_touch_r1 := goodIn_r _ [25, 21, 99, 205, 207, 208, 3, 209, 210, 158, 159, 271, 272, 273, 24, 274, 275, 276, 277, 278, 279, 280, 76, 281] (by decide +kernel) (by decide +kernel)
set_option maxRecDepth 20000 in
theorem ggL_known_X6_touch_c2 : GoodIn wsL_known wsX6_touch_r2 := goodIn_r _ [282, 283, 20, 284, 36, 40, 44, 46, 285, 286, 287, 288, 289, 290, 291, 292, 293, 35, 294, 157, 50, 295, 51, 52] (by decide +kernel) (by decide +kernel)
set_option maxRecDepth 20000 in
theorem ggL_known_X6_touch_c3 : GoodIn wsL_known wsX6_touch_r3 := goodIn_r _ [296, 297, 298, 39, 299, 60, 300, 61, 62, 63, 64, 65, 66, 301, 302, 303, 43, 304, 253, 70, 305, 71] (by decide +kernel) (by decide +kernel)
set_option maxRecDepth 20000 in
theorem ggL_known_X6_touch_c4 : GoodIn wsL_known wsX60 := goodIn_r _ [545, 546, 547] (by decide +kernel) (by decide +kernel)
set_option maxRecDepth 20000 in
theorem ggL_known_X6_touch_c5 : GoodIn wsL_known wsX40 := goodIn_r _ [548, 549, 550, 551, 552, 553] (by decide +kernel) (by decide +kernel)
set_option maxRecDepth 20000 in
theorem ggL_known_X6_touch_c6 : GoodIn wsL_known wsX50 := goodIn_r _ [570, 571, 572, 573, 574, 575, 576] (by decide +kernel) (by decide +kernel)
set_option maxRecDepth 20000 in
theorem ggL_known_X6_touch_c7 : GoodIn wsL_known wsX00 := goodIn_r _ [554, 555, 556] (by decide +kernel) (by decide +kernel)
set_option maxRecDepth 20000 in
theorem ggL_known_X6_touch_c8 : GoodIn wsL_known wsX10 := goodIn_r _ [566, 567, 568, 569] (by decide +kernel) (by decide +kernel)
set_option maxRecDepth 20000 in
theorem ggL_known_X6_touch_c9 : GoodIn wsL_known wsX20 := goodIn_r _ [577, 578, 579] (by decide +kernel) (by decide +kernel)
theorem ggL_known_X6_touch : GoodIn wsL_known wsX6_touch := by
  intro w h
  rcases List.mem_cons.mp h with h | h
  · exact ggL_known_X6_touch_c0 w (List.mem_singleton.mpr h)
  rcases List.mem_append.mp h with h | h
  case inr => exact ggL_known_X6_touch_c9 w h
  rcases List.mem_append.mp h with h | h
  case inr => exact ggL_known_X6_touch_c8 w h
  rcases List.mem_append.mp h with h | h
  case inr => exact ggL_known_X6_touch_c7 w h
  rcases List.mem_append.mp h with h | h
  case inr => exact ggL_known_X6_touch_c6 w h
  rcases List.mem_append.mp h with h | h
  case inr => exact ggL_known_X6_touch_c5 w h
  rcases List.mem_append.mp h with h | h
  case inr => exact ggL_known_X6_touch_c4 w h
  rcases List.mem_append.mp h with h | h
  · exact ggL_known_X6_touch_c1 w h
  rcases List.mem_append.mp h with h | h
  · exact ggL_known_X6_touch_c2 w h
  exact ggL_known_X6_touch_c3 w h
set_option maxRecDepth 20000 in
theorem gL_known_X6_touch : GoodIn wsL_known (wsV RL 45 RX6 yX6_touch wsX6_touch) := goodIn_app (goodIn_of _ (by decide +kernel)) ggL_known_X6_touch
