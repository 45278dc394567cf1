set_option maxRecDepth 20000 in
theorem ggL_known_X6_level_c0 : GoodIn wsL_known [.code yX6_level cX6_level 4 (some .int)] := goodIn_r _ [467] (by decide +kernel) (by decide +kernel)
set_option maxRecDepth 20000 in
theorem ggL_known_X6_level_c1 : GoodIn wsL_known wsX6_level_r1 := goodIn_r _ [21, 96, 25, 153, 154, 155, 35, 156, 157, 158, 3, 159, 210, 165, 166, 167, 168, 51, 164, 271, 272, 273, 24, 274] (by decide +kernel) (by decide +kernel)
set_option maxRecDepth 20000 in
theorem ggL_known_X6_level_c2 : GoodIn wsL_known wsX6_level_r2 := goodIn_r _ [275, 276, 277, 278, 279, 280, 76, 281, 282, 283, 20, 284, 36, 40, 44, 46, 285, 286, 287, 288, 289, 290, 291, 292] (by decide +kernel) (by decide +kernel)
set_option maxRecDepth 20000 in
theorem ggL_known_X6_level_c3 : GoodIn wsL_known wsX6_level_r3 := goodIn_r _ [293, 294, 50, 295, 52, 296, 297, 298, 39, 299, 60, 300, 61, 62, 63, 64, 65, 66, 301, 302, 303, 43, 304, 253] (by decide +kernel) (by decide +kernel)
set_option maxRecDepth 20000 in
theorem ggL_known_X6_level_c4 : GoodIn wsL_known wsX6_level_r4 := goodIn_r _ [70, 305, 71, 468, 469, 470, 471, 472, 320, 321, 322, 318, 323, 185, 186, 187, 188, 189, 161, 162, 163, 190, 191, 192] (by decide +kernel) (by decide +kernel)
set_option maxRecDepth 20000 in
theorem ggL_known_X6_level_c5 : GoodIn wsL_known wsX6_level_r5 := goodIn_r _ [193, 194, 195, 196, 197, 324, 325, 326, 327, 328, 329, 330, 331, 332, 333, 334, 335, 336] (by decide +kernel) (by decide +kernel)
set_option maxRecDepth 20000 in
theorem ggL_known_X6_level_c6 : GoodIn wsL_known wsX60 := goodIn_r _ [545, 546, 547] (by decide +kernel) (by decide +kernel)
set_option maxRecDepth 20000 in
theorem ggL_known_X6_level_c7 : GoodIn wsL_known wsX40 := goodIn_r _ [548, 549, 550, 551, 552, 553] (by decide +kernel) (by decide +kernel)
set_option maxRecDepth 20000 in
theorem ggL_known_X6_level_c8 : GoodIn wsL_known wsX10 := goodIn_r _ [566, 567, 568, 569] (by decide +kernel) (by decide +kernel)
set_option maxRecDepth 20000 in
theorem ggL_known_X6_level_c9 : GoodIn wsL_known wsX00 := goodIn_r _ [554, 555, 556] (by decide +kernel) (by decide +kernel)
set_option maxRecDepth 20000 in
theorem ggL_known_X6_level_c10 : GoodIn wsL_known wsX50 := goodIn_r _ [570, 571, 572, 573, 574, 575, 576] (by decide +kernel) (by decide +kernel)
set_option maxRecDepth 20000 in
theorem ggL_known_X6_level_c11 : GoodIn wsL_known wsX20 := goodIn_r _ [577, 578, 579] (by decide +kernel) (by decide +kernel)
theorem ggL_known_X6_level : GoodIn wsL_known wsX6_level := by
  intro w h
  rcases List.mem_cons.mp h with h | h
  · exact ggL_known_X6_level_c0 w (List.mem_singleton.mpr h)
  rcases List.mem_append.mp h with h | h
  case inr => exact ggL_known_X6_level_c11 w h
  rcases List.mem_append.mp h with h | h
  case inr => exact ggL_known_X6_level_c10 w h
  rcases List.mem_append.mp h with h | h
  case inr => exact ggL_known_X6_level_c9 w h
  rcases List.mem_append.mp h with h | h
  case inr => exact ggL_known_X6_level_c8 w h
  rcases List.mem_append.mp h with h | h
  case inr => exact ggL_known_X6_level_c7 w h
  rcases List.mem_append.mp h with h | h
  case inr => exact ggL_known_X6_level_c6 w h
  rcases List.mem_append.mp h with h | h
  · exact ggL_known_X6_level_c1 w h
  rcases List.mem_append.mp h with h | h
  · exact ggL_known_X6_level_c2 w h
  rcases List.mem_append.mp h with h | h
  · exact ggL_known_X6_level_c3 w h
  rcases List.mem_append.mp h with h | h
  · exact ggL_known_X6_level_c4 w h
  exact ggL_known_X6_level_c5 w h
set_option maxRecDepth 20000 in
theorem gL_known_X6_level : GoodIn wsL_known (wsV RL 87 RX6 yX6_level wsX6_level) := goodIn_app (goodIn_of _ (by decide +kernel)) ggL_known_X6_level
set_option maxRecDepth 20000 in
theorem ggL_known_X6_beat_c0 : GoodIn wsL_known [.code yX6_beat cX6_beat 6 (some .int)] := goodIn_r _ [420] (by decide +kernel) (by decide +kernel)
set_option maxRecDepth 20000 in
theorem ggL_known_X6_beat_c1 : GoodIn wsL_known wsX6_beat_r1 := goodIn_r _ [21, 207, 208, 3, 209, 210, 158, 159, 226, 227, 228, 421, 422, 423, 20, 424, 40, 425, 426, 361, 427, 118, 119, 120] (by decide +kernel) (by decide +kernel)
set_option maxRecDepth 20000 in
theorem ggL_known_X6_beat_c2 : GoodIn wsL_known wsX6_beat_r2 := goodIn_r _ [39, 121, 66, 122, 123, 124, 125, 46, 428, 231, 232, 233, 60, 234, 213, 214, 215, 65] (by decide +kernel) (by decide +kernel)
set_option maxRecDepth 20000 in
theorem ggL_known_X6_beat_c3 : GoodIn wsL_known wsX60 := goodIn_r _ [545, 546, 547] (by decide +kernel) (by decide +kernel)
set_option maxRecDepth 20000 in
theorem ggL_known_X6_beat_c4 : GoodIn wsL_known wsX40 := goodIn_r _ [548, 549, 550, 551, 552, 553] (by decide +kernel) (by decide +kernel)
set_option maxRecDepth 20000 in
theorem ggL_known_X6_beat_c5 : GoodIn wsL_known wsX50 := goodIn_r _ [570, 571, 572, 573, 574, 575, 576] (by decide +kernel) (by decide +kernel)
theorem ggL_known_X6_beat : GoodIn wsL_known wsX6_beat := by
  intro w h
  rcases List.mem_cons.mp h with h | h
  · exact ggL_known_X6_beat_c0 w (List.mem_singleton.mpr h)
  rcases List.mem_append.mp h with h | h
  case inr => exact ggL_known_X6_beat_c5 w h
  rcases List.mem_append.mp h with h | h
  case inr => exact ggL_known_X6_beat_c4 w h
  rcases List.mem_append.mp h with h | h
  case inr => exact ggL_known_X6_beat_c3 w h
  rcases List.mem_append.mp h with h | h
  · exact ggL_known_X6_beat_c1 w h
  exact ggL_known_X6_beat_c2 w h
set_option maxRecDepth 20000 in
theorem gL_known_X6_beat : GoodIn wsL_known (wsV RL 63 RX6 yX6_beat wsX6_beat) := goodIn_app (goodIn_of _ (by decide +kernel)) ggL_known_X6_beat
set_option maxRecDepth 20000 in
theorem ggL_known_X6_slowest_c0 : GoodIn wsL_known [.code yX6_slowest cX6_slowest 4 (some .int)] := goodIn_r _ [432] (by decide +kernel) (by decide +kernel)
set_option maxRecDepth 20000 in
theorem ggL_known_X6_slowest_c1 : GoodIn wsL_known wsX6_slowest_r1 := goodIn_r _ [21, 207, 208, 3, 209, 210, 158, 159, 433, 434, 435, 20, 436, 437, 422, 423, 424, 40, 425, 426, 361, 427, 118, 119] (by decide +kernel) (by decide +kernel)
set_option maxRecDepth 20000 in
theorem ggL_known_X6_slowest_c2 : GoodIn wsL_known wsX6_slowest_r2 := goodIn_r _ [120, 39, 121, 66, 122, 123, 124, 125, 46, 428, 231, 232, 233, 60, 234, 213, 214, 215, 65] (by decide +kernel) (by decide +kernel)
set_option maxRecDepth 20000 in
theorem ggL_known_X6_slowest_c3 : GoodIn wsL_known wsX60 := goodIn_r _ [545, 546, 547] (by decide +kernel) (by decide +kernel)
set_option maxRecDepth 20000 in
theorem ggL_known_X6_slowest_c4 : GoodIn wsL_known wsX40 := goodIn_r _ [548, 549, 550, 551, 552, 553] (by decide +kernel) (by decide +kernel)
set_option maxRecDepth 20000 in
theorem ggL_known_X6_slowest_c5 : GoodIn wsL_known wsX50 := goodIn_r _ [570, 571, 572, 573, 574, 575, 576] (by decide +kernel) (by decide +kernel)
theorem ggL_known_X6_slowest : GoodIn wsL_known wsX6_slowest := by
  intro w h
  rcases List.mem_cons.mp h with h | h
  · exact ggL_known_X6_slowest_c0 w (List.mem_singleton.mpr h)
  rcases List.mem_append.mp h with h | h
  case inr => exact ggL_known_X6_slowest_c5 w h
  rcases List.mem_append.mp h with h | h
  case inr => exact ggL_known_X6_slowest_c4 w h
  rcases List.mem_append.mp h with h | h
  case inr => exact ggL_known_X6_slowest_c3 w h
  rcases List.mem_append.mp h with h | h
  · exact ggL_known_X6_slowest_c1 w h
  exact ggL_known_X6_slowest_c2 w h
set_option maxRecDepth 20000 in
theorem gL_known_X6_slowest : GoodIn wsL_known (wsV RL 67 RX6 yX6_slowest wsX6_slowest) := goodIn_app (goodIn_of _ (by decide +kernel)) ggL_known_X6_slowest
set_option maxRecDepth 20000 in
theorem ggL_known_X6_tune_c0 : GoodIn wsL_known [.code yX6_tune cX6_tune 4 (some .int)] := goodIn_r _ [269] (by decide +kernel) (by decide +kernel)
set_option maxRecDepth 20000 in
theorem ggL_known_X6_tune_c1 : GoodIn wsL_known wsX6_tune_r1 := goodIn_r _ [270, 25, 21, 99, 202, 207, 208, 3, 209, 210, 158, 159, 271, 272, 273, 24, 274, 275, 276, 277, 278, 279, 280, 76] (by decide +kernel) (by decide +kernel)
set_option maxRecDepth 20000 in
theorem ggL_known_X6_tune_c2 : GoodIn wsL_known wsX6_tune_r2 := goodIn_r _ [281, 282, 283, 20, 284, 36, 40, 44, 46, 285, 286, 287, 288, 289, 290, 291, 292, 293, 35, 294, 157, 50, 295, 51] (by decide +kernel) (by decide +kernel)
set_option maxRecDepth 20000 in
theorem ggL_known_X6_tune_c3 : GoodIn wsL_known wsX6_tune_r3 := goodIn_r _ [52, 296, 297, 298, 39, 299, 60, 300, 61, 62, 63, 64, 65, 66, 301, 302, 303, 43, 304, 253, 70, 305, 71] (by decide +kernel) (by decide +kernel)
set_option maxRecDepth 20000 in
theorem ggL_known_X6_tune_c4 : GoodIn wsL_known wsX60 := goodIn_r _ [545, 546, 547] (by decide +kernel) (by decide +kernel)
set_option maxRecDepth 20000 in
theorem ggL_known_X6_tune_c5 : GoodIn wsL_known wsX40 := goodIn_r _ [548, 549, 550, 551, 552, 553] (by decide +kernel) (by decide +kernel)
set_option maxRecDepth 20000 in
theorem ggL_known_X6_tune_c6 : GoodIn wsL_known wsX50 := goodIn_r _ [570, 571, 572, 573, 574, 575, 576] (by decide +kernel) (by decide +kernel)
set_option maxRecDepth 20000 in
theorem ggL_known_X6_tune_c7 : GoodIn wsL_known wsX00 := goodIn_r _ [554, 555, 556] (by decide +kernel) (by decide +kernel)
set_option maxRecDepth 20000 in
theorem ggL_known_X6_tune_c8 : GoodIn wsL_known wsX10 := goodIn_r _ [566, 567, 568, 569] (by decide +kernel) (by decide +kernel)
set_option maxRecDepth 20000 in
theorem ggL_known_X6_tune_c9 : GoodIn wsL_known wsX20 := goodIn_r _ [577, 578, 579] (by decide +kernel) (by decide +kernel)
theorem ggL_known_X6_tune : GoodIn wsL_known wsX6_tune := by
  intro w h
  rcases List.mem_cons.mp h with h | h
  · exact ggL_known_X6_tune_c0 w (List.mem_singleton.mpr h)
  rcases List.mem_append.mp h with h | h
  case inr => exact ggL_known_X6_tune_c9 w h
  rcases List.mem_append.mp h with h | h
  case inr => exact ggL_known_X6_tune_c8 w h
  rcases List.mem_append.mp h with h | h
  case inr => exact ggL_known_X6_tune_c7 w h
  rcases List.mem_append.mp h with h | h
  case inr => exact ggL_known_X6_tune_c6 w h
  rcases List.mem_append.mp h with h | h
  case inr => exact ggL_known_X6_tune_c5 w h
  rcases List.mem_append.mp h with h | h
  case inr => exact ggL_known_X6_tune_c4 w h
  rcases List.mem_append.mp h with h | h
  · exact ggL_known_X6_tune_c1 w h
  rcases List.mem_append.mp h with h | h
  · exact ggL_known_X6_tune_c2 w h
  exact ggL_known_X6_tune_c3 w h
set_option maxRecDepth 20000 in
theorem gL_known_X6_tune : GoodIn wsL_known (wsV RL 39 RX6 yX6_tune wsX6_tune) := goodIn_app (goodIn_of _ (by decide +kernel)) ggL_known_X6_tune
set_option maxRecDepth 20000 in
theorem ggL_known_X6_ticksTo_c0 : GoodIn wsL_known [.code yX6_ticksTo cX6_ticksTo 3 (some .int)] := goodIn_r _ [404] (by decide +kernel) (by decide +kernel)
set_option maxRecDepth 20000 in
theorem ggL_known_X6_ticksTo_c1 : GoodIn wsL_known wsX6_ticksTo_r1 := goodIn_r _ [21, 207, 208, 3, 209, 210, 158, 159, 226, 227, 228, 405, 406, 407, 20, 408, 40, 409, 410, 411, 39, 412, 62, 65] (by decide +kernel) (by decide +kernel)
set_option maxRecDepth 20000 in
theorem ggL_known_X6_ticksTo_c2 : GoodIn wsL_known wsX6_ticksTo_r2 := goodIn_r _ [363, 364, 365, 366, 359, 360, 361, 362, 234, 213, 214, 215, 367, 368, 196, 369, 118, 119, 120, 121, 66, 122, 123, 124] (by decide +kernel) (by decide +kernel)
set_option maxRecDepth 20000 in
theorem ggL_known_X6_ticksTo_c3 : GoodIn wsL_known wsX6_ticksTo_r3 := goodIn_r _ [125, 46, 413, 414, 415, 416] (by decide +kernel) (by decide +kernel)
set_option maxRecDepth 20000 in
theorem ggL_known_X6_ticksTo_c4 : GoodIn wsL_known wsX60 := goodIn_r _ [545, 546, 547] (by decide +kernel) (by decide +kernel)
set_option maxRecDepth 20000 in
theorem ggL_known_X6_ticksTo_c5 : GoodIn wsL_known wsX40 := goodIn_r _ [548, 549, 550, 551, 552, 553] (by decide +kernel) (by decide +kernel)
set_option maxRecDepth 20000 in
theorem ggL_known_X6_ticksTo_c6 : GoodIn wsL_known wsX50 := goodIn_r _ [570, 571, 572, 573, 574, 575, 576] (by decide +kernel) (by decide +kernel)
theorem ggL_known_X6_ticksTo : GoodIn wsL_known wsX6_ticksTo := by
  intro w h
  rcases List.mem_cons.mp h with h | h
  · exact ggL_known_X6_ticksTo_c0 w (List.mem_singleton.mpr h)
  rcases List.mem_append.mp h with h | h
  case inr => exact ggL_known_X6_ticksTo_c6 w h
  rcases List.mem_append.mp h with h | h
  case inr => exact ggL_known_X6_ticksTo_c5 w h
  rcases List.mem_append.mp h with h | h
  case inr => exact ggL_known_X6_ticksTo_c4 w h
  rcases List.mem_append.mp h with h | h
  · exact ggL_known_X6_ticksTo_c1 w h
  rcases List.mem_append.mp h with h | h
  · exact ggL_known_X6_ticksTo_c2 w h
  exact ggL_known_X6_ticksTo_c3 w h
set_option maxRecDepth 20000 in
theorem gL_known_X6_ticksTo : GoodIn wsL_known (wsV RL 60 RX6 yX6_ticksTo wsX6_ticksTo) := goodIn_app (goodIn_of _ (by decide +kernel)) ggL_known_X6_ticksTo
set_option maxRecDepth 20000 in
theorem ggL_known_X6_damp_c0 : GoodIn wsL_known [.code yX6_damp cX6_damp 3 (some .int)] := goodIn_r _ [386] (by decide +kernel) (by decide +kernel)
set_option maxRecDepth 20000 in
theorem ggL_known_X6_damp_c1 : GoodIn wsL_known wsX6_damp_r1 := goodIn_r _ [25, 21, 99, 207, 208, 3, 209, 210, 158, 159, 271, 272, 273, 24, 274, 275, 276, 277, 278, 279, 280, 76, 281, 282] (by decide +kernel) (by decide +kernel)
set_option maxRecDepth 20000 in
theorem ggL_known_X6_damp_c2 : GoodIn wsL_known wsX6_damp_r2 := goodIn_r _ [283, 20, 284, 36, 40, 44, 46, 285, 286, 287, 288, 289, 290, 291, 292, 293, 35, 294, 157, 50, 295, 51, 52, 296] (by decide +kernel) (by decide +kernel)
set_option maxRecDepth 20000 in
theorem ggL_known_X6_damp_c3 : GoodIn wsL_known wsX6_damp_r3 := goodIn_r _ [297, 298, 39, 299, 60, 300, 61, 62, 63, 64, 65, 66, 301, 302, 303, 43, 304, 253, 70, 305, 71, 382, 111, 112] (by decide +kernel) (by decide +kernel)
set_option maxRecDepth 20000 in
theorem ggL_known_X6_damp_c4 : GoodIn wsL_known wsX6_damp_r4 := goodIn_r _ [113, 114, 115, 116, 117, 118, 119, 120, 121, 122, 123, 124, 125, 126, 127, 128, 129, 130, 131, 132, 387, 330, 331, 332] (by decide +kernel) (by decide +kernel)
set_option maxRecDepth 20000 in
theorem ggL_known_X6_damp_c5 : GoodIn wsL_known wsX6_damp_r5 := goodIn_r _ [333, 334, 335, 336] (by decide +kernel) (by decide +kernel)
set_option maxRecDepth 20000 in
theorem ggL_known_X6_damp_c6 : GoodIn wsL_known wsX60 := goodIn_r _ [545, 546, 547] (by decide +kernel) (by decide +kernel)
set_option maxRecDepth 20000 in
theorem ggL_known_X6_damp_c7 : GoodIn wsL_known wsX40 := goodIn_r _ [548, 549, 550, 551, 552, 553] (by decide +kernel) (by decide +kernel)
set_option maxRecDepth 20000 in
theorem ggL_known_X6_damp_c8 : GoodIn wsL_known wsX00 := goodIn_r _ [554, 555, 556] (by decide +kernel) (by decide +kernel)
set_option maxRecDepth 20000 in
theorem ggL_known_X6_damp_c9 : GoodIn wsL_known wsX10 := goodIn_r _ [566, 567, 568, 569] (by decide +kernel) (by decide +kernel)
set_option maxRecDepth 20000 in
theorem ggL_known_X6_damp_c10 : GoodIn wsL_known wsX50 := goodIn_r _ [570, 571, 572, 573, 574, 575, 576] (by decide +kernel) (by decide +kernel)
set_option maxRecDepth 20000 in
theorem ggL_known_X6_damp_c11 : GoodIn wsL_known wsX20 := goodIn_r _ [577, 578, 579] (by decide +kernel) (by decide +kernel)
theorem ggL_known_X6_damp : GoodIn wsL_known wsX6_damp := by
  intro w h
  rcases List.mem_cons.mp h with h | h
  · exact ggL_known_X6_damp_c0 w (List.mem_singleton.mpr h)
  rcases List.mem_append.mp h with h | h
  case inr => exact ggL_known_X6_damp_c11 w h
  rcases List.mem_append.mp h with h | h
  case inr => exact ggL_known_X6_damp_c10 w h
  rcases List.mem_append.mp h with h | h
  case inr => exact ggL_known_X6_damp_c9 w h
  rcases List.mem_append.mp h with h | h
  case inr => exact ggL_known_X6_damp_c8 w h
  rcases List.mem_append.mp h with h | h
  case inr => exact ggL_known_X6_damp_c7 w h
  rcases List.mem_append.mp h with h | h
  case inr => exact ggL_known_X6_damp_c6 w h
  rcases List.mem_append.mp h with h | h
  · exact ggL_known_X6_damp_c1 w h
  rcases List.mem_append.mp h with h | h
  · exact ggL_known_X6_damp_c2 w h
  rcases List.mem_append.mp h with h | h
  · exact ggL_known_X6_damp_c3 w h
  rcases List.mem_append.mp h with h | h
  · exact ggL_known_X6_damp_c4 w h
  exact ggL_known_X6_damp_c5 w h
set_option maxRecDepth 20000 in
theorem gL_known_X6_damp : GoodIn wsL_known (wsV RL 51 RX6 yX6_damp wsX6_damp) := goodIn_app (goodIn_of _ (by decide +kernel)) ggL_known_X6_damp
