set_option maxRecDepth 20000 in
theorem ggL_refused_L_refusesStrings_c0 : GoodIn wsL_refused [.code yL_refusesStrings cL_refusesStrings 5 (some .boolean)] := goodIn_r _ [201] (by decide +kernel) (by decide +kernel)
set_option maxRecDepth 20000 in
theorem ggL_refused_L_refusesStrings_c1 : GoodIn wsL_refused wsL_refusesStrings_r1 := goodIn_r _ [202, 203, 204, 205, 11, 206, 207, 22, 13, 17, 134, 139, 140, 141, 142, 87, 88, 208, 209, 210, 211, 212, 213, 214] (by decide +kernel) (by decide +kernel)
set_option maxRecDepth 20000 in
theorem ggL_refused_L_refusesStrings_c2 : GoodIn wsL_refused wsL_refusesStrings_r2 := goodIn_r _ [215, 216, 217, 218, 219, 220, 221, 222, 29, 223, 224, 39, 225, 50, 226, 227, 228, 229, 230, 231, 232, 233, 234, 84] (by decide +kernel) (by decide +kernel)
set_option maxRecDepth 20000 in
theorem ggL_refused_L_refusesStrings_c3 : GoodIn wsL_refused wsL_refusesStrings_r3 := goodIn_r _ [235, 86, 93, 236, 99, 104, 237, 238, 239, 43, 240, 167, 241, 67, 242, 72, 66, 148, 45, 243, 244, 245, 182, 246] (by decide +kernel) (by decide +kernel)
set_option maxRecDepth 20000 in
theorem ggL_refused_L_refusesStrings_c4 : GoodIn wsL_refused wsL_refusesStrings_r4 := goodIn_r _ [188, 189, 247, 198, 248, 249, 250, 251, 14, 252, 253, 254, 255, 256, 257, 258, 259, 260, 261, 262, 263, 264, 265, 117] (by decide +kernel) (by decide +kernel)
set_option maxRecDepth 20000 in
theorem ggL_refused_L_refusesStrings_c5 : GoodIn wsL_refused wsL_refusesStrings_r5 := goodIn_r _ [118, 119, 94, 82, 83, 85, 120, 96, 97, 98, 121, 90, 91, 92, 122, 123, 124, 125, 126, 127, 128, 129, 266, 267] (by decide +kernel) (by decide +kernel)
set_option maxRecDepth 20000 in
theorem ggL_refused_L_refusesStrings_c6 : GoodIn wsL_refused wsL_refusesStrings_r6 := goodIn_r _ [268, 269, 270, 271, 272, 273, 274, 275, 276, 277, 278, 144, 145, 146, 147, 279, 280, 281, 282, 137, 283, 284, 285, 286] (by decide +kernel) (by decide +kernel)
set_option maxRecDepth 20000 in
theorem ggL_refused_L_refusesStrings_c7 : GoodIn wsL_refused wsL_refusesStrings_r7 := goodIn_r _ [287, 288, 289, 290, 291, 292, 293, 294, 295, 296, 297, 298, 299, 300, 301, 302, 303, 304, 305, 306, 307, 308, 309, 168] (by decide +kernel) (by decide +kernel)
set_option maxRecDepth 20000 in
theorem ggL_refused_L_refusesStrings_c8 : GoodIn wsL_refused wsL_refusesStrings_r8 := goodIn_r _ [310, 311, 312, 154, 41, 42, 44, 313, 314, 315, 316, 317, 318, 319, 320, 321, 322, 323, 324, 325, 32, 33, 34, 35] (by decide +kernel) (by decide +kernel)
set_option maxRecDepth 20000 in
theorem ggL_refused_L_refusesStrings_c9 : GoodIn wsL_refused wsL_refusesStrings_r9 := goodIn_r _ [36, 37, 38, 40, 46, 47, 48, 49, 51, 52, 53, 54, 55, 56, 57, 326, 327, 328, 329, 330, 130, 131, 132, 133] (by decide +kernel) (by decide +kernel)
set_option maxRecDepth 20000 in
theorem ggL_refused_L_refusesStrings_c10 : GoodIn wsL_refused wsL_refusesStrings_r10 := goodIn_r _ [135, 136, 138, 143, 63, 64, 65, 149, 150, 151, 152, 153, 155, 156, 157, 158, 159, 160, 161, 162, 163, 164, 165, 166] (by decide +kernel) (by decide +kernel)
set_option maxRecDepth 20000 in
theorem ggL_refused_L_refusesStrings_c11 : GoodIn wsL_refused wsL_refusesStrings_r11 := goodIn_r _ [169, 170, 171, 172, 173, 174, 331, 332, 333, 334, 335, 336, 337, 338, 339, 340, 341, 342, 343, 344, 345, 346, 347, 348] (by decide +kernel) (by decide +kernel)
set_option maxRecDepth 20000 in
theorem ggL_refused_L_refusesStrings_c12 : GoodIn wsL_refused wsL_refusesStrings_r12 := goodIn_r _ [349, 350, 351, 352, 353, 354, 355, 356, 357, 358, 359, 360, 361, 362, 363, 364, 365, 366, 367, 368, 369, 370, 371, 372] (by decide +kernel) (by decide +kernel)
set_option maxRecDepth 20000 in
theorem ggL_refused_L_refusesStrings_c13 : GoodIn wsL_refused wsL_refusesStrings_r13 := goodIn_r _ [373, 374, 375, 376, 377, 378, 379, 380] (by decide +kernel) (by decide +kernel)
set_option maxRecDepth 20000 in
theorem ggL_refused_L_refusesStrings_c14 : GoodIn wsL_refused wsX60 := goodIn_r _ [482, 483, 484] (by decide +kernel) (by decide +kernel)
set_option maxRecDepth 20000 in
theorem ggL_refused_L_refusesStrings_c15 : GoodIn wsL_refused wsX40 := goodIn_r _ [485, 486, 487, 488, 489, 490] (by decide +kernel) (by decide +kernel)
set_option maxRecDepth 20000 in
theorem ggL_refused_L_refusesStrings_c16 : GoodIn wsL_refused wsX50 := goodIn_r _ [510, 511, 512, 513, 514, 515, 516] (by decide +kernel) (by decide +kernel)
set_option maxRecDepth 20000 in
theorem ggL_refused_L_refusesStrings_c17 : GoodIn wsL_refused wsX00 := goodIn_r _ [498, 499, 500] (by decide +kernel) (by decide +kernel)
set_option maxRecDepth 20000 in
theorem ggL_refused_L_refusesStrings_c18 : GoodIn wsL_refused wsX10 := goodIn_r _ [491, 492, 493, 494] (by decide +kernel) (by decide +kernel)
set_option maxRecDepth 20000 in
theorem ggL_refused_L_refusesStrings_c19 : GoodIn wsL_refused wsX20 := goodIn_r _ [495, 496, 497] (by decide +kernel) (by decide +kernel)
theorem ggL_refused_L_refusesStrings : GoodIn wsL_refused wsL_refusesStrings := by
  intro w h
  rcases List.mem_cons.mp h with h | h
  · exact ggL_refused_L_refusesStrings_c0 w (List.mem_singleton.mpr h)
  rcases List.mem_append.mp h with h | h
  case inr => exact ggL_refused_L_refusesStrings_c19 w h
  rcases List.mem_append.mp h with h | h
  case inr => exact ggL_refused_L_refusesStrings_c18 w h
  rcases List.mem_append.mp h with h | h
  case inr => exact ggL_refused_L_refusesStrings_c17 w h
  rcases List.mem_append.mp h with h | h
  case inr => exact ggL_refused_L_refusesStrings_c16 w h
  rcases List.mem_append.mp h with h | h
  case inr => exact ggL_refused_L_refusesStrings_c15 w h
  rcases List.mem_append.mp h with h | h
  case inr => exact ggL_refused_L_refusesStrings_c14 w h
  rcases List.mem_append.mp h with h | h
  · exact ggL_refused_L_refusesStrings_c1 w h
  rcases List.mem_append.mp h with h | h
  · exact ggL_refused_L_refusesStrings_c2 w h
  rcases List.mem_append.mp h with h | h
  · exact ggL_refused_L_refusesStrings_c3 w h
  rcases List.mem_append.mp h with h | h
  · exact ggL_refused_L_refusesStrings_c4 w h
  rcases List.mem_append.mp h with h | h
  · exact ggL_refused_L_refusesStrings_c5 w h
  rcases List.mem_append.mp h with h | h
  · exact ggL_refused_L_refusesStrings_c6 w h
  rcases List.mem_append.mp h with h | h
  · exact ggL_refused_L_refusesStrings_c7 w h
  rcases List.mem_append.mp h with h | h
  · exact ggL_refused_L_refusesStrings_c8 w h
  rcases List.mem_append.mp h with h | h
  · exact ggL_refused_L_refusesStrings_c9 w h
  rcases List.mem_append.mp h with h | h
  · exact ggL_refused_L_refusesStrings_c10 w h
  rcases List.mem_append.mp h with h | h
  · exact ggL_refused_L_refusesStrings_c11 w h
  rcases List.mem_append.mp h with h | h
  · exact ggL_refused_L_refusesStrings_c12 w h
  exact ggL_refused_L_refusesStrings_c13 w h
set_option maxRecDepth 20000 in
theorem gL_refused_L_refusesStrings : GoodIn wsL_refused (va_wsS RL 75 yL_refusesStrings wsL_refusesStrings) := goodIn_app (goodIn_of _ (by decide +kernel)) ggL_refused_L_refusesStrings
set_option maxRecDepth 20000 in
theorem ggL_refused_X6_fret_c0 : GoodIn wsL_refused [.code yX6_fret cX6_fret 3 (some .int)] := goodIn_r _ [384] (by decide +kernel) (by decide +kernel)
set_option maxRecDepth 20000 in
theorem ggL_refused_X6_fret_c1 : GoodIn wsL_refused wsX6_fret_r1 := goodIn_r _ [13, 14, 15, 22, 142, 87, 11, 88, 385, 386, 387, 84, 388, 86, 121, 90, 91, 92, 93, 94, 82, 83, 85, 208] (by decide +kernel) (by decide +kernel)
set_option maxRecDepth 20000 in
theorem ggL_refused_X6_fret_c2 : GoodIn wsL_refused wsX6_fret_r2 := goodIn_r _ [209, 210, 211, 212, 213, 214, 215, 216, 217, 218, 219, 220, 221, 222, 29, 223, 224, 39, 225, 50, 226, 227, 228, 229] (by decide +kernel) (by decide +kernel)
set_option maxRecDepth 20000 in
theorem ggL_refused_X6_fret_c3 : GoodIn wsL_refused wsX6_fret_r3 := goodIn_r _ [230, 231, 232, 233, 234, 235, 236, 99, 104, 237, 238, 239, 43, 240, 167, 241, 67, 242, 72, 66, 148, 45, 243, 244] (by decide +kernel) (by decide +kernel)
set_option maxRecDepth 20000 in
theorem ggL_refused_X6_fret_c4 : GoodIn wsL_refused wsX6_fret_r4 := goodIn_r _ [245, 182, 246, 188, 189, 247, 198, 389, 390, 391, 392, 393, 394, 395, 396, 397, 398, 399, 400, 261, 262, 263, 264, 260] (by decide +kernel) (by decide +kernel)
set_option maxRecDepth 20000 in
theorem ggL_refused_X6_fret_c5 : GoodIn wsL_refused wsX6_fret_r5 := goodIn_r _ [265, 117, 118, 119, 120, 96, 97, 98, 122, 123, 124, 125, 126, 127, 128, 129, 266, 267, 268, 269, 270, 271, 272, 273] (by decide +kernel) (by decide +kernel)
set_option maxRecDepth 20000 in
theorem ggL_refused_X6_fret_c6 : GoodIn wsL_refused wsX6_fret_r6 := goodIn_r _ [274, 275, 276, 277, 278] (by decide +kernel) (by decide +kernel)
set_option maxRecDepth 20000 in
theorem ggL_refused_X6_fret_c7 : GoodIn wsL_refused wsX60 := goodIn_r _ [482, 483, 484] (by decide +kernel) (by decide +kernel)
set_option maxRecDepth 20000 in
theorem ggL_refused_X6_fret_c8 : GoodIn wsL_refused wsX40 := goodIn_r _ [485, 486, 487, 488, 489, 490] (by decide +kernel) (by decide +kernel)
set_option maxRecDepth 20000 in
theorem ggL_refused_X6_fret_c9 : GoodIn wsL_refused wsX10 := goodIn_r _ [491, 492, 493, 494] (by decide +kernel) (by decide +kernel)
set_option maxRecDepth 20000 in
theorem ggL_refused_X6_fret_c10 : GoodIn wsL_refused wsX00 := goodIn_r _ [498, 499, 500] (by decide +kernel) (by decide +kernel)
set_option maxRecDepth 20000 in
theorem ggL_refused_X6_fret_c11 : GoodIn wsL_refused wsX50 := goodIn_r _ [510, 511, 512, 513, 514, 515, 516] (by decide +kernel) (by decide +kernel)
set_option maxRecDepth 20000 in
theorem ggL_refused_X6_fret_c12 : GoodIn wsL_refused wsX20 := goodIn_r _ [495, 496, 497] (by decide +kernel) (by decide +kernel)
theorem ggL_refused_X6_fret : GoodIn wsL_refused wsX6_fret := by
  intro w h
  rcases List.mem_cons.mp h with h | h
  · exact ggL_refused_X6_fret_c0 w (List.mem_singleton.mpr h)
  rcases List.mem_append.mp h with h | h
  case inr => exact ggL_refused_X6_fret_c12 w h
  rcases List.mem_append.mp h with h | h
  case inr => exact ggL_refused_X6_fret_c11 w h
  rcases List.mem_append.mp h with h | h
  case inr => exact ggL_refused_X6_fret_c10 w h
  rcases List.mem_append.mp h with h | h
  case inr => exact ggL_refused_X6_fret_c9 w h
  rcases List.mem_append.mp h with h | h
  case inr => exact ggL_refused_X6_fret_c8 w h
  rcases List.mem_append.mp h with h | h
  case inr => exact ggL_refused_X6_fret_c7 w h
  rcases List.mem_append.mp h with h | h
  · exact ggL_refused_X6_fret_c1 w h
  rcases List.mem_append.mp h with h | h
  · exact ggL_refused_X6_fret_c2 w h
  rcases List.mem_append.mp h with h | h
  · exact ggL_refused_X6_fret_c3 w h
  rcases List.mem_append.mp h with h | h
  · exact ggL_refused_X6_fret_c4 w h
  rcases List.mem_append.mp h with h | h
  · exact ggL_refused_X6_fret_c5 w h
  exact ggL_refused_X6_fret_c6 w h
set_option maxRecDepth 20000 in
theorem gL_refused_X6_fret : GoodIn wsL_refused (wsV RL 79 RX6 yX6_fret wsX6_fret) := goodIn_app (goodIn_of _ (by decide +kernel)) ggL_refused_X6_fret
set_option maxRecDepth 20000 in
theorem ggL_refused_X6_press_c0 : GoodIn wsL_refused [.code yX6_press cX6_press 3 (some .int)] := goodIn_r _ [251] (by decide +kernel) (by decide +kernel)
set_option maxRecDepth 20000 in
theorem ggL_refused_X6_press_c1 : GoodIn wsL_refused wsX6_press_r1 := goodIn_r _ [13, 14, 22, 17, 139, 140, 11, 141, 142, 87, 88, 252, 253, 254, 84, 255, 86, 208, 209, 210, 211, 212, 213, 214] (by decide +kernel) (by decide +kernel)
set_option maxRecDepth 20000 in
theorem ggL_refused_X6_press_c2 : GoodIn wsL_refused wsX6_press_r2 := goodIn_r _ [215, 216, 217, 218, 219, 220, 221, 222, 29, 223, 224, 39, 225, 50, 226, 227, 228, 229, 230, 231, 232, 233, 234, 235] (by decide +kernel) (by decide +kernel)
set_option maxRecDepth 20000 in
theorem ggL_refused_X6_press_c3 : GoodIn wsL_refused wsX6_press_r3 := goodIn_r _ [93, 236, 99, 104, 237, 238, 239, 43, 240, 167, 241, 67, 242, 72, 66, 148, 45, 243, 244, 245, 182, 246, 188, 189] (by decide +kernel) (by decide +kernel)
set_option maxRecDepth 20000 in
theorem ggL_refused_X6_press_c4 : GoodIn wsL_refused wsX6_press_r4 := goodIn_r _ [247, 198, 256, 257, 258, 259, 260, 261, 262, 263, 264, 265, 117, 118, 119, 94, 82, 83, 85, 120, 96, 97, 98, 121] (by decide +kernel) (by decide +kernel)
set_option maxRecDepth 20000 in
theorem ggL_refused_X6_press_c5 : GoodIn wsL_refused wsX6_press_r5 := goodIn_r _ [90, 91, 92, 122, 123, 124, 125, 126, 127, 128, 129, 266, 267, 268, 269, 270, 271, 272, 273, 274, 275, 276, 277, 278] (by decide +kernel) (by decide +kernel)
set_option maxRecDepth 20000 in
theorem ggL_refused_X6_press_c6 : GoodIn wsL_refused wsX6_press_r6 := goodIn_r _ [144, 145, 146, 147] (by decide +kernel) (by decide +kernel)
set_option maxRecDepth 20000 in
theorem ggL_refused_X6_press_c7 : GoodIn wsL_refused wsX60 := goodIn_r _ [482, 483, 484] (by decide +kernel) (by decide +kernel)
set_option maxRecDepth 20000 in
theorem ggL_refused_X6_press_c8 : GoodIn wsL_refused wsX40 := goodIn_r _ [485, 486, 487, 488, 489, 490] (by decide +kernel) (by decide +kernel)
set_option maxRecDepth 20000 in
theorem ggL_refused_X6_press_c9 : GoodIn wsL_refused wsX10 := goodIn_r _ [491, 492, 493, 494] (by decide +kernel) (by decide +kernel)
set_option maxRecDepth 20000 in
theorem ggL_refused_X6_press_c10 : GoodIn wsL_refused wsX00 := goodIn_r _ [498, 499, 500] (by decide +kernel) (by decide +kernel)
set_option maxRecDepth 20000 in
theorem ggL_refused_X6_press_c11 : GoodIn wsL_refused wsX50 := goodIn_r _ [510, 511, 512, 513, 514, 515, 516] (by decide +kernel) (by decide +kernel)
set_option maxRecDepth 20000 in
theorem ggL_refused_X6_press_c12 : GoodIn wsL_refused wsX20 := goodIn_r _ [495, 496, 497] (by decide +kernel) (by decide +kernel)
theorem ggL_refused_X6_press : GoodIn wsL_refused wsX6_press := by
  intro w h
  rcases List.mem_cons.mp h with h | h
  · exact ggL_refused_X6_press_c0 w (List.mem_singleton.mpr h)
  rcases List.mem_append.mp h with h | h
  case inr => exact ggL_refused_X6_press_c12 w h
  rcases List.mem_append.mp h with h | h
  case inr => exact ggL_refused_X6_press_c11 w h
  rcases List.mem_append.mp h with h | h
  case inr => exact ggL_refused_X6_press_c10 w h
  rcases List.mem_append.mp h with h | h
  case inr => exact ggL_refused_X6_press_c9 w h
  rcases List.mem_append.mp h with h | h
  case inr => exact ggL_refused_X6_press_c8 w h
  rcases List.mem_append.mp h with h | h
  case inr => exact ggL_refused_X6_press_c7 w h
  rcases List.mem_append.mp h with h | h
  · exact ggL_refused_X6_press_c1 w h
  rcases List.mem_append.mp h with h | h
  · exact ggL_refused_X6_press_c2 w h
  rcases List.mem_append.mp h with h | h
  · exact ggL_refused_X6_press_c3 w h
  rcases List.mem_append.mp h with h | h
  · exact ggL_refused_X6_press_c4 w h
  rcases List.mem_append.mp h with h | h
  · exact ggL_refused_X6_press_c5 w h
  exact ggL_refused_X6_press_c6 w h
set_option maxRecDepth 20000 in
theorem gL_refused_X6_press : GoodIn wsL_refused (wsV RL 42 RX6 yX6_press wsX6_press) := goodIn_app (goodIn_of _ (by decide +kernel)) ggL_refused_X6_press
