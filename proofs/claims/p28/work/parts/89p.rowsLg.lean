set_option maxRecDepth 20000 in
theorem ggL_law_L_state_c0 : GoodIn wsL_law [.code yL_state cL_state 4 (some .long)] := fun w h => by
  obtain rfl := List.mem_singleton.mp h
  exact ⟨List.mem_of_getElem? (i := 480) rfl, good_of_word (by decide +kernel)⟩
set_option maxRecDepth 20000 in
theorem ggL_law_L_state_c1 : GoodIn wsL_law wsL_state_r1 := goodIn_r _ [481, 319, 320, 321, 2, 322, 49, 114, 115, 218, 323, 324, 325, 326, 327, 53, 328, 57, 329, 330, 331, 332, 48, 333] (by decide +kernel) (by decide +kernel)
set_option maxRecDepth 20000 in
theorem ggL_law_L_state_c2 : GoodIn wsL_law wsL_state_r2 := goodIn_r _ [334, 335, 336, 337, 338, 339, 340, 341, 68, 313, 290, 291, 67, 292, 94, 342, 343, 344, 345, 74, 346, 347, 348, 349] (by decide +kernel) (by decide +kernel)
set_option maxRecDepth 20000 in
theorem ggL_law_L_state_c3 : GoodIn wsL_law wsL_state_r3 := goodIn_r _ [350, 351, 352, 353, 354, 355, 356, 357, 358, 359, 360, 92, 89, 361, 362, 363, 364, 91, 482, 483, 7, 484, 485, 426] (by decide +kernel) (by decide +kernel)
set_option maxRecDepth 20000 in
theorem ggL_law_L_state_c4 : GoodIn wsL_law wsL_state_r4 := goodIn_r _ [427, 428, 429, 430, 129, 130, 63, 131, 123, 117, 118, 431, 125, 126, 127, 78, 128, 432, 190, 191, 192, 79, 433, 434] (by decide +kernel) (by decide +kernel)
set_option maxRecDepth 20000 in
theorem ggL_law_L_state_c5 : GoodIn wsL_law wsL_state_r5 := goodIn_r _ [435, 436, 80, 437, 438, 439, 440, 441, 442, 443, 444, 445, 446, 447, 448, 186, 187, 188, 189, 124, 193, 194, 195, 196] (by decide +kernel) (by decide +kernel)
set_option maxRecDepth 20000 in
theorem ggL_law_L_state_c6 : GoodIn wsL_law wsL_state_r6 := goodIn_r _ [197, 198, 199, 200, 409, 410, 411, 412, 413, 414, 415, 416, 417, 418, 253, 254, 116, 419, 420, 283, 284, 285, 93, 421] (by decide +kernel) (by decide +kernel)
set_option maxRecDepth 20000 in
theorem ggL_law_L_state_c7 : GoodIn wsL_law wsL_state_r7 := goodIn_r _ [422, 423, 424, 425, 289, 486, 487, 488, 489, 490, 491, 492, 493, 494, 495, 496, 497, 88, 282, 498, 499, 500, 501, 502] (by decide +kernel) (by decide +kernel)
set_option maxRecDepth 20000 in
theorem ggL_law_L_state_c8 : GoodIn wsL_law wsL_state_r8 := goodIn_r _ [503, 389, 390, 391, 392, 393, 394, 395, 71, 396, 397, 398, 399, 400, 166, 98, 401, 402, 403, 404, 405, 406, 407, 408] (by decide +kernel) (by decide +kernel)
set_option maxRecDepth 20000 in
theorem ggL_law_L_state_c9 : GoodIn wsL_law wsL_state_r9 := goodIn_r _ [99] (by decide +kernel) (by decide +kernel)
set_option maxRecDepth 20000 in
theorem ggL_law_L_state_c10 : GoodIn wsL_law wsX60 := goodIn_r _ [612, 613, 614] (by decide +kernel) (by decide +kernel)
set_option maxRecDepth 20000 in
theorem ggL_law_L_state_c11 : GoodIn wsL_law wsX40 := goodIn_r _ [615, 616, 617, 618, 619, 620] (by decide +kernel) (by decide +kernel)
set_option maxRecDepth 20000 in
theorem ggL_law_L_state_c12 : GoodIn wsL_law wsX10 := goodIn_r _ [633, 634, 635, 636] (by decide +kernel) (by decide +kernel)
set_option maxRecDepth 20000 in
theorem ggL_law_L_state_c13 : GoodIn wsL_law wsX20 := goodIn_r _ [644, 645, 646] (by decide +kernel) (by decide +kernel)
set_option maxRecDepth 20000 in
theorem ggL_law_L_state_c14 : GoodIn wsL_law wsX00 := goodIn_r _ [621, 622, 623] (by decide +kernel) (by decide +kernel)
set_option maxRecDepth 20000 in
theorem ggL_law_L_state_c15 : GoodIn wsL_law wsX30 := goodIn_r _ [624, 625, 626, 627, 628, 629, 630, 631, 632] (by decide +kernel) (by decide +kernel)
set_option maxRecDepth 20000 in
theorem ggL_law_L_state_c16 : GoodIn wsL_law wsX50 := goodIn_r _ [637, 638, 639, 640, 641, 642, 643] (by decide +kernel) (by decide +kernel)
theorem ggL_law_L_state : GoodIn wsL_law wsL_state := by
  intro w h
  rcases List.mem_cons.mp h with h | h
  · exact ggL_law_L_state_c0 w (List.mem_singleton.mpr h)
  rcases List.mem_append.mp h with h | h
  case inr => exact ggL_law_L_state_c16 w h
  rcases List.mem_append.mp h with h | h
  case inr => exact ggL_law_L_state_c15 w h
  rcases List.mem_append.mp h with h | h
  case inr => exact ggL_law_L_state_c14 w h
  rcases List.mem_append.mp h with h | h
  case inr => exact ggL_law_L_state_c13 w h
  rcases List.mem_append.mp h with h | h
  case inr => exact ggL_law_L_state_c12 w h
  rcases List.mem_append.mp h with h | h
  case inr => exact ggL_law_L_state_c11 w h
  rcases List.mem_append.mp h with h | h
  case inr => exact ggL_law_L_state_c10 w h
  rcases List.mem_append.mp h with h | h
  · exact ggL_law_L_state_c1 w h
  rcases List.mem_append.mp h with h | h
  · exact ggL_law_L_state_c2 w h
  rcases List.mem_append.mp h with h | h
  · exact ggL_law_L_state_c3 w h
  rcases List.mem_append.mp h with h | h
  · exact ggL_law_L_state_c4 w h
  rcases List.mem_append.mp h with h | h
  · exact ggL_law_L_state_c5 w h
  rcases List.mem_append.mp h with h | h
  · exact ggL_law_L_state_c6 w h
  rcases List.mem_append.mp h with h | h
  · exact ggL_law_L_state_c7 w h
  rcases List.mem_append.mp h with h | h
  · exact ggL_law_L_state_c8 w h
  exact ggL_law_L_state_c9 w h
set_option maxRecDepth 20000 in
theorem gL_law_L_state : GoodIn wsL_law (va_wsS RL 71 yL_state wsL_state) := goodIn_app (goodIn_of _ (by decide +kernel)) ggL_law_L_state
set_option maxRecDepth 20000 in
theorem ggL_law_X6_pluck_c0 : GoodIn wsL_law [.code yX6_pluck cX6_pluck 4 (some .int)] := goodIn_r _ [528] (by decide +kernel) (by decide +kernel)
set_option maxRecDepth 20000 in
theorem ggL_law_X6_pluck_c1 : GoodIn wsL_law wsX6_pluck_r1 := goodIn_r _ [49, 323, 529, 53, 418, 253, 2, 254, 116, 117, 118, 530, 531, 532, 132, 133, 134, 52, 135, 136, 137, 138, 139, 140] (by decide +kernel) (by decide +kernel)
set_option maxRecDepth 20000 in
theorem ggL_law_X6_pluck_c2 : GoodIn wsL_law wsX6_pluck_r2 := goodIn_r _ [141, 104, 142, 143, 144, 48, 145, 64, 68, 72, 74, 146, 147, 148, 149, 150, 151, 152, 153, 154, 63, 155, 123, 78] (by decide +kernel) (by decide +kernel)
set_option maxRecDepth 20000 in
theorem ggL_law_X6_pluck_c3 : GoodIn wsL_law wsX6_pluck_r3 := goodIn_r _ [156, 79, 80, 157, 158, 159, 67, 160, 88, 161, 89, 90, 91, 92, 93, 94, 162, 163, 164, 71, 165, 166, 98, 167] (by decide +kernel) (by decide +kernel)
set_option maxRecDepth 20000 in
theorem ggL_law_X6_pluck_c4 : GoodIn wsL_law wsX6_pluck_r4 := goodIn_r _ [99, 264, 265, 266, 267, 184, 268, 269, 270, 271, 272, 273, 84, 274, 275, 276, 277, 278, 279, 280, 281, 282, 283, 284] (by decide +kernel) (by decide +kernel)
set_option maxRecDepth 20000 in
theorem ggL_law_X6_pluck_c5 : GoodIn wsL_law wsX6_pluck_r5 := goodIn_r _ [285, 286, 287, 199, 288, 289, 290, 291, 292, 210, 211, 212, 213, 293, 294, 295, 296, 297, 298, 299, 300, 301, 302, 303] (by decide +kernel) (by decide +kernel)
set_option maxRecDepth 20000 in
theorem ggL_law_X6_pluck_c6 : GoodIn wsL_law wsX6_pluck_r6 := goodIn_r _ [304, 128, 129, 130, 131, 180, 181, 182, 183, 185, 186, 187, 188, 189, 190, 191, 192, 124, 125, 126, 127, 193, 194, 195] (by decide +kernel) (by decide +kernel)
set_option maxRecDepth 20000 in
theorem ggL_law_X6_pluck_c7 : GoodIn wsL_law wsX6_pluck_r7 := goodIn_r _ [196, 197, 198, 200, 201, 202, 203, 204, 205, 206, 207, 208, 209, 533, 335, 336, 337, 338, 339, 340, 341, 313, 342, 343] (by decide +kernel) (by decide +kernel)
set_option maxRecDepth 20000 in
theorem ggL_law_X6_pluck_c8 : GoodIn wsL_law wsX6_pluck_r8 := goodIn_r _ [344, 345, 346, 347, 348, 349, 350, 351, 352] (by decide +kernel) (by decide +kernel)
set_option maxRecDepth 20000 in
theorem ggL_law_X6_pluck_c9 : GoodIn wsL_law wsX60 := goodIn_r _ [612, 613, 614] (by decide +kernel) (by decide +kernel)
set_option maxRecDepth 20000 in
theorem ggL_law_X6_pluck_c10 : GoodIn wsL_law wsX40 := goodIn_r _ [615, 616, 617, 618, 619, 620] (by decide +kernel) (by decide +kernel)
set_option maxRecDepth 20000 in
theorem ggL_law_X6_pluck_c11 : GoodIn wsL_law wsX50 := goodIn_r _ [637, 638, 639, 640, 641, 642, 643] (by decide +kernel) (by decide +kernel)
set_option maxRecDepth 20000 in
theorem ggL_law_X6_pluck_c12 : GoodIn wsL_law wsX00 := goodIn_r _ [621, 622, 623] (by decide +kernel) (by decide +kernel)
set_option maxRecDepth 20000 in
theorem ggL_law_X6_pluck_c13 : GoodIn wsL_law wsX10 := goodIn_r _ [633, 634, 635, 636] (by decide +kernel) (by decide +kernel)
set_option maxRecDepth 20000 in
theorem ggL_law_X6_pluck_c14 : GoodIn wsL_law wsX20 := goodIn_r _ [644, 645, 646] (by decide +kernel) (by decide +kernel)
theorem ggL_law_X6_pluck : GoodIn wsL_law wsX6_pluck := by
  intro w h
  rcases List.mem_cons.mp h with h | h
  · exact ggL_law_X6_pluck_c0 w (List.mem_singleton.mpr h)
  rcases List.mem_append.mp h with h | h
  case inr => exact ggL_law_X6_pluck_c14 w h
  rcases List.mem_append.mp h with h | h
  case inr => exact ggL_law_X6_pluck_c13 w h
  rcases List.mem_append.mp h with h | h
  case inr => exact ggL_law_X6_pluck_c12 w h
  rcases List.mem_append.mp h with h | h
  case inr => exact ggL_law_X6_pluck_c11 w h
  rcases List.mem_append.mp h with h | h
  case inr => exact ggL_law_X6_pluck_c10 w h
  rcases List.mem_append.mp h with h | h
  case inr => exact ggL_law_X6_pluck_c9 w h
  rcases List.mem_append.mp h with h | h
  · exact ggL_law_X6_pluck_c1 w h
  rcases List.mem_append.mp h with h | h
  · exact ggL_law_X6_pluck_c2 w h
  rcases List.mem_append.mp h with h | h
  · exact ggL_law_X6_pluck_c3 w h
  rcases List.mem_append.mp h with h | h
  · exact ggL_law_X6_pluck_c4 w h
  rcases List.mem_append.mp h with h | h
  · exact ggL_law_X6_pluck_c5 w h
  rcases List.mem_append.mp h with h | h
  · exact ggL_law_X6_pluck_c6 w h
  rcases List.mem_append.mp h with h | h
  · exact ggL_law_X6_pluck_c7 w h
  exact ggL_law_X6_pluck_c8 w h
set_option maxRecDepth 20000 in
theorem gL_law_X6_pluck : GoodIn wsL_law (wsV RL 48 RX6 yX6_pluck wsX6_pluck) := goodIn_app (goodIn_of _ (by decide +kernel)) ggL_law_X6_pluck
set_option maxRecDepth 20000 in
theorem ggL_law_X6_press_c0 : GoodIn wsL_law [.code yX6_press cX6_press 3 (some .int)] := goodIn_r _ [516] (by decide +kernel) (by decide +kernel)
set_option maxRecDepth 20000 in
theorem ggL_law_X6_press_c1 : GoodIn wsL_law wsX6_press_r1 := goodIn_r _ [49, 114, 53, 323, 418, 253, 2, 254, 116, 117, 118, 517, 518, 519, 63, 520, 123, 132, 133, 134, 52, 135, 136, 137] (by decide +kernel) (by decide +kernel)
set_option maxRecDepth 20000 in
theorem ggL_law_X6_press_c2 : GoodIn wsL_law wsX6_press_r2 := goodIn_r _ [138, 139, 140, 141, 104, 142, 143, 144, 48, 145, 64, 68, 72, 74, 146, 147, 148, 149, 150, 151, 152, 153, 154, 155] (by decide +kernel) (by decide +kernel)
set_option maxRecDepth 20000 in
theorem ggL_law_X6_press_c3 : GoodIn wsL_law wsX6_press_r3 := goodIn_r _ [78, 156, 79, 80, 157, 158, 159, 67, 160, 88, 161, 89, 90, 91, 92, 93, 94, 162, 163, 164, 71, 165, 166, 98] (by decide +kernel) (by decide +kernel)
set_option maxRecDepth 20000 in
theorem ggL_law_X6_press_c4 : GoodIn wsL_law wsX6_press_r4 := goodIn_r _ [167, 99, 260, 261, 262, 263, 184, 180, 181, 182, 183, 185, 186, 187, 188, 128, 129, 130, 131, 189, 190, 191, 192, 124] (by decide +kernel) (by decide +kernel)
set_option maxRecDepth 20000 in
theorem ggL_law_X6_press_c5 : GoodIn wsL_law wsX6_press_r5 := goodIn_r _ [125, 126, 127, 193, 194, 195, 196, 197, 198, 199, 200, 201, 202, 203, 204, 205, 206, 207, 208, 209, 210, 211, 212, 213] (by decide +kernel) (by decide +kernel)
set_option maxRecDepth 20000 in
theorem ggL_law_X6_press_c6 : GoodIn wsL_law wsX6_press_r6 := goodIn_r _ [420, 283, 284, 285] (by decide +kernel) (by decide +kernel)
set_option maxRecDepth 20000 in
theorem ggL_law_X6_press_c7 : GoodIn wsL_law wsX60 := goodIn_r _ [612, 613, 614] (by decide +kernel) (by decide +kernel)
set_option maxRecDepth 20000 in
theorem ggL_law_X6_press_c8 : GoodIn wsL_law wsX40 := goodIn_r _ [615, 616, 617, 618, 619, 620] (by decide +kernel) (by decide +kernel)
set_option maxRecDepth 20000 in
theorem ggL_law_X6_press_c9 : GoodIn wsL_law wsX10 := goodIn_r _ [633, 634, 635, 636] (by decide +kernel) (by decide +kernel)
set_option maxRecDepth 20000 in
theorem ggL_law_X6_press_c10 : GoodIn wsL_law wsX00 := goodIn_r _ [621, 622, 623] (by decide +kernel) (by decide +kernel)
set_option maxRecDepth 20000 in
theorem ggL_law_X6_press_c11 : GoodIn wsL_law wsX50 := goodIn_r _ [637, 638, 639, 640, 641, 642, 643] (by decide +kernel) (by decide +kernel)
set_option maxRecDepth 20000 in
theorem ggL_law_X6_press_c12 : GoodIn wsL_law wsX20 := goodIn_r _ [644, 645, 646] (by decide +kernel) (by decide +kernel)
theorem ggL_law_X6_press : GoodIn wsL_law wsX6_press := by
  intro w h
  rcases List.mem_cons.mp h with h | h
  · exact ggL_law_X6_press_c0 w (List.mem_singleton.mpr h)
  rcases List.mem_append.mp h with h | h
  case inr => exact ggL_law_X6_press_c12 w h
  rcases List.mem_append.mp h with h | h
  case inr => exact ggL_law_X6_press_c11 w h
  rcases List.mem_append.mp h with h | h
  case inr => exact ggL_law_X6_press_c10 w h
  rcases List.mem_append.mp h with h | h
  case inr => exact ggL_law_X6_press_c9 w h
  rcases List.mem_append.mp h with h | h
  case inr => exact ggL_law_X6_press_c8 w h
  rcases List.mem_append.mp h with h | h
  case inr => exact ggL_law_X6_press_c7 w h
  rcases List.mem_append.mp h with h | h
  · exact ggL_law_X6_press_c1 w h
  rcases List.mem_append.mp h with h | h
  · exact ggL_law_X6_press_c2 w h
  rcases List.mem_append.mp h with h | h
  · exact ggL_law_X6_press_c3 w h
  rcases List.mem_append.mp h with h | h
  · exact ggL_law_X6_press_c4 w h
  rcases List.mem_append.mp h with h | h
  · exact ggL_law_X6_press_c5 w h
  exact ggL_law_X6_press_c6 w h
set_option maxRecDepth 20000 in
theorem gL_law_X6_press : GoodIn wsL_law (wsV RL 42 RX6 yX6_press wsX6_press) := goodIn_app (goodIn_of _ (by decide +kernel)) ggL_law_X6_press
set_option maxRecDepth 20000 in
theorem ggL_law_X6_touch_c0 : GoodIn wsL_law [.code yX6_touch cX6_touch 4 (some .int)] := goodIn_r _ [524] (by decide +kernel) (by decide +kernel)
set_option maxRecDepth 20000 in
theorem ggL_law_X6_touch_c1 : GoodIn wsL_law wsX6_touch_r1 := goodIn_r _ [53, 49, 323, 416, 418, 253, 2, 254, 116, 117, 118, 132, 133, 134, 52, 135, 136, 137, 138, 139, 140, 141, 104, 142] (by decide +kernel) (by decide +kernel)
set_option maxRecDepth 20000 in
theorem ggL_law_X6_touch_c2 : GoodIn wsL_law wsX6_touch_r2 := goodIn_r _ [143, 144, 48, 145, 64, 68, 72, 74, 146, 147, 148, 149, 150, 151, 152, 153, 154, 63, 155, 123, 78, 156, 79, 80] (by decide +kernel) (by decide +kernel)
set_option maxRecDepth 20000 in
theorem ggL_law_X6_touch_c3 : GoodIn wsL_law wsX6_touch_r3 := goodIn_r _ [157, 158, 159, 67, 160, 88, 161, 89, 90, 91, 92, 93, 94, 162, 163, 164, 71, 165, 166, 98, 167, 99] (by decide +kernel) (by decide +kernel)
set_option maxRecDepth 20000 in
theorem ggL_law_X6_touch_c4 : GoodIn wsL_law wsX60 := goodIn_r _ [612, 613, 614] (by decide +kernel) (by decide +kernel)
set_option maxRecDepth 20000 in
theorem ggL_law_X6_touch_c5 : GoodIn wsL_law wsX40 := goodIn_r _ [615, 616, 617, 618, 619, 620] (by decide +kernel) (by decide +kernel)
set_option maxRecDepth 20000 in
theorem ggL_law_X6_touch_c6 : GoodIn wsL_law wsX50 := goodIn_r _ [637, 638, 639, 640, 641, 642, 643] (by decide +kernel) (by decide +kernel)
set_option maxRecDepth 20000 in
theorem ggL_law_X6_touch_c7 : GoodIn wsL_law wsX00 := goodIn_r _ [621, 622, 623] (by decide +kernel) (by decide +kernel)
set_option maxRecDepth 20000 in
theorem ggL_law_X6_touch_c8 : GoodIn wsL_law wsX10 := goodIn_r _ [633, 634, 635, 636] (by decide +kernel) (by decide +kernel)
set_option maxRecDepth 20000 in
theorem ggL_law_X6_touch_c9 : GoodIn wsL_law wsX20 := goodIn_r _ [644, 645, 646] (by decide +kernel) (by decide +kernel)
theorem ggL_law_X6_touch : GoodIn wsL_law wsX6_touch := by
  intro w h
  rcases List.mem_cons.mp h with h | h
  · exact ggL_law_X6_touch_c0 w (List.mem_singleton.mpr h)
  rcases List.mem_append.mp h with h | h
  case inr => exact ggL_law_X6_touch_c9 w h
  rcases List.mem_append.mp h with h | h
  case inr => exact ggL_law_X6_touch_c8 w h
  rcases List.mem_append.mp h with h | h
  case inr => exact ggL_law_X6_touch_c7 w h
  rcases List.mem_append.mp h with h | h
  case inr => exact ggL_law_X6_touch_c6 w h
  rcases List.mem_append.mp h with h | h
  case inr => exact ggL_law_X6_touch_c5 w h
  rcases List.mem_append.mp h with h | h
  case inr => exact ggL_law_X6_touch_c4 w h
  rcases List.mem_append.mp h with h | h
  · exact ggL_law_X6_touch_c1 w h
  rcases List.mem_append.mp h with h | h
  · exact ggL_law_X6_touch_c2 w h
  exact ggL_law_X6_touch_c3 w h
set_option maxRecDepth 20000 in
theorem gL_law_X6_touch : GoodIn wsL_law (wsV RL 45 RX6 yX6_touch wsX6_touch) := goodIn_app (goodIn_of _ (by decide +kernel)) ggL_law_X6_touch
