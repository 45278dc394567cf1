set_option maxRecDepth 20000 in
theorem ggL_law_L_texts_c0 : GoodIn wsL_law [.code yL_texts cL_texts 2 (some .boolean)] := fun w h => by
  obtain rfl := List.mem_singleton.mp h
  exact ⟨List.mem_of_getElem? (i := 8) rfl, good_of_word (by decide +kernel)⟩
set_option maxRecDepth 20000 in
theorem ggL_law_L_texts_c1 : GoodIn wsL_law wsL_texts_r1 := goodIn_r _ [0, 1, 2, 9, 10, 11, 12, 13, 14, 15, 16, 17, 18, 19, 20, 21, 22, 23, 24, 25, 26, 27, 28, 29] (by decide +kernel) (by decide +kernel)
set_option maxRecDepth 20000 in
theorem ggL_law_L_texts_c2 : GoodIn wsL_law wsL_texts_r2 := goodIn_r _ [30, 31, 32, 33, 34, 35, 36, 37, 38, 39, 40, 41, 42, 43, 44, 45, 46, 47, 48, 49, 50, 51, 52, 53] (by decide +kernel) (by decide +kernel)
set_option maxRecDepth 20000 in
theorem ggL_law_L_texts_c3 : GoodIn wsL_law wsL_texts_r3 := goodIn_r _ [54, 55, 56, 57, 58, 59, 60, 61, 62, 63, 64, 65, 66, 67, 68, 69, 70, 71, 72, 73, 74, 75, 76, 77] (by decide +kernel) (by decide +kernel)
set_option maxRecDepth 20000 in
theorem ggL_law_L_texts_c4 : GoodIn wsL_law wsL_texts_r4 := goodIn_r _ [78, 79, 80, 81, 82, 83, 84, 85, 86, 87, 88, 89, 90, 91, 92, 93, 94, 95, 96, 97, 98, 99, 100, 101] (by decide +kernel) (by decide +kernel)
set_option maxRecDepth 20000 in
theorem ggL_law_L_texts_c5 : GoodIn wsL_law wsL_texts_r5 := goodIn_r _ [102, 103, 104, 105, 106, 107, 108, 109, 110, 111, 112, 113, 114, 115, 116, 117, 118, 119, 120, 121, 122, 123, 124, 125] (by decide +kernel) (by decide +kernel)
set_option maxRecDepth 20000 in
theorem ggL_law_L_texts_c6 : GoodIn wsL_law wsL_texts_r6 := goodIn_r _ [126, 127, 128, 129, 130, 131, 132, 133, 134, 135, 136, 137, 138, 139, 140, 141, 142, 143, 144, 145, 146, 147, 148, 149] (by decide +kernel) (by decide +kernel)
set_option maxRecDepth 20000 in
theorem ggL_law_L_texts_c7 : GoodIn wsL_law wsL_texts_r7 := goodIn_r _ [150, 151, 152, 153, 154, 155, 156, 157, 158, 159, 160, 161, 162, 163, 164, 165, 166, 167, 168, 169, 170, 171, 172, 173] (by decide +kernel) (by decide +kernel)
set_option maxRecDepth 20000 in
theorem ggL_law_L_texts_c8 : GoodIn wsL_law wsL_texts_r8 := goodIn_r _ [174, 175, 176, 177, 178, 179, 180, 181, 182, 183, 184, 185, 186, 187, 188, 189, 190, 191, 192, 193, 194, 195, 196, 197] (by decide +kernel) (by decide +kernel)
set_option maxRecDepth 20000 in
theorem ggL_law_L_texts_c9 : GoodIn wsL_law wsL_texts_r9 := goodIn_r _ [198, 199, 200, 201, 202, 203, 204, 205, 206, 207, 208, 209, 210, 211, 212, 213, 214, 215, 216, 217, 218, 219, 220, 221] (by decide +kernel) (by decide +kernel)
set_option maxRecDepth 20000 in
theorem ggL_law_L_texts_c10 : GoodIn wsL_law wsL_texts_r10 := goodIn_r _ [222, 223, 224, 225, 226, 227, 228, 229, 230, 231, 232, 233, 234, 235, 236, 237, 238, 239, 240, 241, 242, 243, 244, 245] (by decide +kernel) (by decide +kernel)
set_option maxRecDepth 20000 in
theorem ggL_law_L_texts_c11 : GoodIn wsL_law wsL_texts_r11 := goodIn_r _ [246, 247, 248, 249, 250, 251, 252, 253, 254, 255, 256, 257, 258, 259, 260, 261, 262, 263, 264, 265, 266, 267, 268, 269] (by decide +kernel) (by decide +kernel)
set_option maxRecDepth 20000 in
theorem ggL_law_L_texts_c12 : GoodIn wsL_law wsL_texts_r12 := goodIn_r _ [270, 271, 272, 273, 274, 275, 276, 277, 278, 279, 280, 281, 282, 283, 284, 285, 286, 287, 288, 289, 290, 291, 292, 293] (by decide +kernel) (by decide +kernel)
set_option maxRecDepth 20000 in
theorem ggL_law_L_texts_c13 : GoodIn wsL_law wsL_texts_r13 := goodIn_r _ [294, 295, 296, 297, 298, 299, 300, 301, 302, 303, 304, 305, 306, 307, 308, 309, 310, 311, 312, 313, 314, 315, 316, 317] (by decide +kernel) (by decide +kernel)
set_option maxRecDepth 20000 in
theorem ggL_law_L_texts_c14 : GoodIn wsL_law wsL_texts_r14 := goodIn_r _ [318, 319, 320, 321, 322, 323, 324, 325, 326, 327, 328, 329, 330, 331, 332, 333, 334, 335, 336, 337, 338, 339, 340, 341] (by decide +kernel) (by decide +kernel)
set_option maxRecDepth 20000 in
theorem ggL_law_L_texts_c15 : GoodIn wsL_law wsL_texts_r15 := goodIn_r _ [342, 343, 344, 345, 346, 347, 348, 349, 350, 351, 352, 353, 354, 355, 356, 357, 358, 359, 360, 361, 362, 363, 364, 365] (by decide +kernel) (by decide +kernel)
set_option maxRecDepth 20000 in
theorem ggL_law_L_texts_c16 : GoodIn wsL_law wsL_texts_r16 := goodIn_r _ [366, 7, 367, 368, 369, 370, 371, 372, 373, 374, 375, 376, 377, 378, 379, 380, 381, 382, 383, 384, 385, 386, 387, 388] (by decide +kernel) (by decide +kernel)
set_option maxRecDepth 20000 in
theorem ggL_law_L_texts_c17 : GoodIn wsL_law wsL_texts_r17 := goodIn_r _ [389, 390, 391, 392, 393, 394, 395, 396, 397, 398, 399, 400, 401, 402, 403, 404, 405, 406, 407, 408, 409, 410, 411, 412] (by decide +kernel) (by decide +kernel)
set_option maxRecDepth 20000 in
theorem ggL_law_L_texts_c18 : GoodIn wsL_law wsL_texts_r18 := goodIn_r _ [413, 414, 415, 416, 417, 418, 419, 420, 421, 422, 423, 424, 425, 426, 427, 428, 429, 430, 431, 432, 433, 434, 435, 436] (by decide +kernel) (by decide +kernel)
set_option maxRecDepth 20000 in
theorem ggL_law_L_texts_c19 : GoodIn wsL_law wsL_texts_r19 := goodIn_r _ [437, 438, 439, 440, 441, 442, 443, 444, 445, 446, 447, 448, 449, 450, 451, 452, 453, 454, 455, 456, 457, 458, 459, 460] (by decide +kernel) (by decide +kernel)
set_option maxRecDepth 20000 in
theorem ggL_law_L_texts_c20 : GoodIn wsL_law wsL_texts_r20 := goodIn_r _ [461] (by decide +kernel) (by decide +kernel)
set_option maxRecDepth 20000 in
theorem ggL_law_L_texts_c21 : GoodIn wsL_law wsX60 := goodIn_r _ [612, 613, 614] (by decide +kernel) (by decide +kernel)
set_option maxRecDepth 20000 in
theorem ggL_law_L_texts_c22 : GoodIn wsL_law wsX40 := goodIn_r _ [615, 616, 617, 618, 619, 620] (by decide +kernel) (by decide +kernel)
set_option maxRecDepth 20000 in
theorem ggL_law_L_texts_c23 : GoodIn wsL_law wsX00 := goodIn_r _ [621, 622, 623] (by decide +kernel) (by decide +kernel)
set_option maxRecDepth 20000 in
theorem ggL_law_L_texts_c24 : GoodIn wsL_law wsX30 := goodIn_r _ [624, 625, 626, 627, 628, 629, 630, 631, 632] (by decide +kernel) (by decide +kernel)
set_option maxRecDepth 20000 in
theorem ggL_law_L_texts_c25 : GoodIn wsL_law wsX10 := goodIn_r _ [633, 634, 635, 636] (by decide +kernel) (by decide +kernel)
set_option maxRecDepth 20000 in
theorem ggL_law_L_texts_c26 : GoodIn wsL_law wsX50 := goodIn_r _ [637, 638, 639, 640, 641, 642, 643] (by decide +kernel) (by decide +kernel)
set_option maxRecDepth 20000 in
theorem ggL_law_L_texts_c27 : GoodIn wsL_law wsX20 := goodIn_r _ [644, 645, 646] (by decide +kernel) (by decide +kernel)
theorem ggL_law_L_texts : GoodIn wsL_law wsL_texts := by
  intro w h
  rcases List.mem_cons.mp h with h | h
  · exact ggL_law_L_texts_c0 w (List.mem_singleton.mpr h)
  rcases List.mem_append.mp h with h | h
  case inr => exact ggL_law_L_texts_c27 w h
  rcases List.mem_append.mp h with h | h
  case inr => exact ggL_law_L_texts_c26 w h
  rcases List.mem_append.mp h with h | h
  case inr => exact ggL_law_L_texts_c25 w h
  rcases List.mem_append.mp h with h | h
  case inr => exact ggL_law_L_texts_c24 w h
  rcases List.mem_append.mp h with h | h
  case inr => exact ggL_law_L_texts_c23 w h
  rcases List.mem_append.mp h with h | h
  case inr => exact ggL_law_L_texts_c22 w h
  rcases List.mem_append.mp h with h | h
  case inr => exact ggL_law_L_texts_c21 w h
  rcases List.mem_append.mp h with h | h
  · exact ggL_law_L_texts_c1 w h
  rcases List.mem_append.mp h with h | h
  · exact ggL_law_L_texts_c2 w h
  rcases List.mem_append.mp h with h | h
  · exact ggL_law_L_texts_c3 w h
  rcases List.mem_append.mp h with h | h
  · exact ggL_law_L_texts_c4 w h
  rcases List.mem_append.mp h with h | h
  · exact ggL_law_L_texts_c5 w h
  rcases List.mem_append.mp h with h | h
  · exact ggL_law_L_texts_c6 w h
  rcases List.mem_append.mp h with h | h
  · exact ggL_law_L_texts_c7 w h
  rcases List.mem_append.mp h with h | h
  · exact ggL_law_L_texts_c8 w h
  rcases List.mem_append.mp h with h | h
  · exact ggL_law_L_texts_c9 w h
  rcases List.mem_append.mp h with h | h
  · exact ggL_law_L_texts_c10 w h
  rcases List.mem_append.mp h with h | h
  · exact ggL_law_L_texts_c11 w h
  rcases List.mem_append.mp h with h | h
  · exact ggL_law_L_texts_c12 w h
  rcases List.mem_append.mp h with h | h
  · exact ggL_law_L_texts_c13 w h
  rcases List.mem_append.mp h with h | h
  · exact ggL_law_L_texts_c14 w h
  rcases List.mem_append.mp h with h | h
  · exact ggL_law_L_texts_c15 w h
  rcases List.mem_append.mp h with h | h
  · exact ggL_law_L_texts_c16 w h
  rcases List.mem_append.mp h with h | h
  · exact ggL_law_L_texts_c17 w h
  rcases List.mem_append.mp h with h | h
  · exact ggL_law_L_texts_c18 w h
  rcases List.mem_append.mp h with h | h
  · exact ggL_law_L_texts_c19 w h
  exact ggL_law_L_texts_c20 w h
set_option maxRecDepth 20000 in
theorem gL_law_L_texts : GoodIn wsL_law (va_wsS RL 196 yL_texts wsL_texts) := goodIn_app (goodIn_of _ (by decide +kernel)) ggL_law_L_texts
