set_option maxRecDepth 20000 in
theorem ggL_texts_X6_init_c0 : GoodIn wsL_texts [.code yX6_init cX6_init 1 none] := goodIn_r _ [37] (by decide +kernel) (by decide +kernel)
set_option maxRecDepth 20000 in
theorem ggL_texts_X6_init_c1 : GoodIn wsL_texts wsX6_init_r1 := goodIn_r _ [38, 39, 40, 41, 42, 43, 44, 45, 46, 47, 48, 49, 50, 51, 52, 53, 54, 55, 56, 57, 58, 59, 60, 61] (by decide +kernel) (by decide +kernel)
set_option maxRecDepth 20000 in
theorem ggL_texts_X6_init_c2 : GoodIn wsL_texts wsX6_init_r2 := goodIn_r _ [62, 63, 64, 65, 66, 67, 68, 69, 70, 71, 72, 73, 74, 75, 76, 77, 78, 79, 80, 81, 82, 83, 84, 85] (by decide +kernel) (by decide +kernel)
set_option maxRecDepth 20000 in
theorem ggL_texts_X6_init_c3 : GoodIn wsL_texts wsX6_init_r3 := goodIn_r _ [86, 87, 88, 89, 90, 91, 92, 93, 94, 95, 96, 97, 98, 99, 100, 101, 102, 103, 104] (by decide +kernel) (by decide +kernel)
set_option maxRecDepth 20000 in
theorem ggL_texts_X6_init_c4 : GoodIn wsL_texts wsX40 := goodIn_r _ [461, 462, 463, 464, 465, 466] (by decide +kernel) (by decide +kernel)
set_option maxRecDepth 20000 in
theorem ggL_texts_X6_init_c5 : GoodIn wsL_texts wsX60 := goodIn_r _ [458, 459, 460] (by decide +kernel) (by decide +kernel)
set_option maxRecDepth 20000 in
theorem ggL_texts_X6_init_c6 : GoodIn wsL_texts wsX00 := goodIn_r _ [467, 468, 469] (by decide +kernel) (by decide +kernel)
set_option maxRecDepth 20000 in
theorem ggL_texts_X6_init_c7 : GoodIn wsL_texts wsX30 := goodIn_r _ [470, 471, 472, 473, 474, 475, 476, 477, 478] (by decide +kernel) (by decide +kernel)
set_option maxRecDepth 20000 in
theorem ggL_texts_X6_init_c8 : GoodIn wsL_texts wsX10 := goodIn_r _ [479, 480, 481, 482] (by decide +kernel) (by decide +kernel)
set_option maxRecDepth 20000 in
theorem ggL_texts_X6_init_c9 : GoodIn wsL_texts wsX50 := goodIn_r _ [483, 484, 485, 486, 487, 488, 489] (by decide +kernel) (by decide +kernel)
set_option maxRecDepth 20000 in
theorem ggL_texts_X6_init_c10 : GoodIn wsL_texts wsX20 := goodIn_r _ [490, 491, 492] (by decide +kernel) (by decide +kernel)
theorem ggL_texts_X6_init : GoodIn wsL_texts wsX6_init := by
  intro w h
  rcases List.mem_cons.mp h with h | h
  · exact ggL_texts_X6_init_c0 w (List.mem_singleton.mpr h)
  rcases List.mem_append.mp h with h | h
  case inr => exact ggL_texts_X6_init_c10 w h
  rcases List.mem_append.mp h with h | h
  case inr => exact ggL_texts_X6_init_c9 w h
  rcases List.mem_append.mp h with h | h
  case inr => exact ggL_texts_X6_init_c8 w h
  rcases List.mem_append.mp h with h | h
  case inr => exact ggL_texts_X6_init_c7 w h
  rcases List.mem_append.mp h with h | h
  case inr => exact ggL_texts_X6_init_c6 w h
  rcases List.mem_append.mp h with h | h
  case inr => exact ggL_texts_X6_init_c5 w h
  rcases List.mem_append.mp h with h | h
  case inr => exact ggL_texts_X6_init_c4 w h
  rcases List.mem_append.mp h with h | h
  · exact ggL_texts_X6_init_c1 w h
  rcases List.mem_append.mp h with h | h
  · exact ggL_texts_X6_init_c2 w h
  exact ggL_texts_X6_init_c3 w h
set_option maxRecDepth 20000 in
theorem gL_texts_X6_init : GoodIn wsL_texts (wsX6_init) := ggL_texts_X6_init
set_option maxRecDepth 20000 in
theorem ggL_texts_X6_fret_c0 : GoodIn wsL_texts [.code yX6_fret cX6_fret 3 (some .int)] := goodIn_r _ [108] (by decide +kernel) (by decide +kernel)
set_option maxRecDepth 20000 in
theorem ggL_texts_X6_fret_c1 : GoodIn wsL_texts wsX6_fret_r1 := goodIn_r _ [44, 109, 110, 48, 111, 112, 3, 113, 114, 115, 116, 58, 117, 118, 119, 120, 121, 122, 73, 123, 124, 125, 126, 127] (by decide +kernel) (by decide +kernel)
set_option maxRecDepth 20000 in
theorem ggL_texts_X6_fret_c2 : GoodIn wsL_texts wsX6_fret_r2 := goodIn_r _ [128, 129, 47, 130, 131, 132, 133, 134, 135, 136, 99, 137, 138, 139, 43, 140, 59, 63, 67, 69, 141, 142, 143, 144] (by decide +kernel) (by decide +kernel)
set_option maxRecDepth 20000 in
theorem ggL_texts_X6_fret_c3 : GoodIn wsL_texts wsX6_fret_r3 := goodIn_r _ [145, 146, 147, 148, 149, 150, 151, 74, 75, 152, 153, 154, 62, 155, 83, 156, 84, 85, 86, 87, 88, 89, 157, 158] (by decide +kernel) (by decide +kernel)
set_option maxRecDepth 20000 in
theorem ggL_texts_X6_fret_c4 : GoodIn wsL_texts wsX6_fret_r4 := goodIn_r _ [159, 66, 160, 161, 93, 162, 94, 163, 164, 165, 166, 167, 168, 169, 170, 171, 172, 173, 174, 175, 176, 177, 178, 179] (by decide +kernel) (by decide +kernel)
set_option maxRecDepth 20000 in
theorem ggL_texts_X6_fret_c5 : GoodIn wsL_texts wsX6_fret_r5 := goodIn_r _ [180, 181, 182, 183, 184, 185, 186, 187, 188, 189, 190, 191, 192, 193, 194, 195, 196, 197, 198, 199, 200, 201, 202, 203] (by decide +kernel) (by decide +kernel)
set_option maxRecDepth 20000 in
theorem ggL_texts_X6_fret_c6 : GoodIn wsL_texts wsX6_fret_r6 := goodIn_r _ [204, 205, 206, 207, 208] (by decide +kernel) (by decide +kernel)
set_option maxRecDepth 20000 in
theorem ggL_texts_X6_fret_c7 : GoodIn wsL_texts wsX60 := goodIn_r _ [458, 459, 460] (by decide +kernel) (by decide +kernel)
set_option maxRecDepth 20000 in
theorem ggL_texts_X6_fret_c8 : GoodIn wsL_texts wsX40 := goodIn_r _ [461, 462, 463, 464, 465, 466] (by decide +kernel) (by decide +kernel)
set_option maxRecDepth 20000 in
theorem ggL_texts_X6_fret_c9 : GoodIn wsL_texts wsX10 := goodIn_r _ [479, 480, 481, 482] (by decide +kernel) (by decide +kernel)
set_option maxRecDepth 20000 in
theorem ggL_texts_X6_fret_c10 : GoodIn wsL_texts wsX00 := goodIn_r _ [467, 468, 469] (by decide +kernel) (by decide +kernel)
set_option maxRecDepth 20000 in
theorem ggL_texts_X6_fret_c11 : GoodIn wsL_texts wsX50 := goodIn_r _ [483, 484, 485, 486, 487, 488, 489] (by decide +kernel) (by decide +kernel)
set_option maxRecDepth 20000 in
theorem ggL_texts_X6_fret_c12 : GoodIn wsL_texts wsX20 := goodIn_r _ [490, 491, 492] (by decide +kernel) (by decide +kernel)
theorem ggL_texts_X6_fret : GoodIn wsL_texts wsX6_fret := by
  intro w h
  rcases List.mem_cons.mp h with h | h
  · exact ggL_texts_X6_fret_c0 w (List.mem_singleton.mpr h)
  rcases List.mem_append.mp h with h | h
  case inr => exact ggL_texts_X6_fret_c12 w h
  rcases List.mem_append.mp h with h | h
  case inr => exact ggL_texts_X6_fret_c11 w h
  rcases List.mem_append.mp h with h | h
  case inr => exact ggL_texts_X6_fret_c10 w h
  rcases List.mem_append.mp h with h | h
  case inr => exact ggL_texts_X6_fret_c9 w h
  rcases List.mem_append.mp h with h | h
  case inr => exact ggL_texts_X6_fret_c8 w h
  rcases List.mem_append.mp h with h | h
  case inr => exact ggL_texts_X6_fret_c7 w h
  rcases List.mem_append.mp h with h | h
  · exact ggL_texts_X6_fret_c1 w h
  rcases List.mem_append.mp h with h | h
  · exact ggL_texts_X6_fret_c2 w h
  rcases List.mem_append.mp h with h | h
  · exact ggL_texts_X6_fret_c3 w h
  rcases List.mem_append.mp h with h | h
  · exact ggL_texts_X6_fret_c4 w h
  rcases List.mem_append.mp h with h | h
  · exact ggL_texts_X6_fret_c5 w h
  exact ggL_texts_X6_fret_c6 w h
set_option maxRecDepth 20000 in
theorem gL_texts_X6_fret : GoodIn wsL_texts (wsV RL 79 RX6 yX6_fret wsX6_fret) := goodIn_app (goodIn_of _ (by decide +kernel)) ggL_texts_X6_fret
set_option maxRecDepth 20000 in
theorem ggL_texts_X6_play_c0 : GoodIn wsL_texts [.code yX6_play cX6_play 3 (some .int)] := goodIn_r _ [212] (by decide +kernel) (by decide +kernel)
set_option maxRecDepth 20000 in
theorem ggL_texts_X6_play_c1 : GoodIn wsL_texts wsX6_play_r1 := goodIn_r _ [52, 44, 109, 110, 213, 48, 214, 215, 216, 217, 218, 219, 220, 221, 51, 222, 223, 224, 225, 226, 227, 228, 229, 230] (by decide +kernel) (by decide +kernel)
set_option maxRecDepth 20000 in
theorem ggL_texts_X6_play_c2 : GoodIn wsL_texts wsX6_play_r2 := goodIn_r _ [231, 232, 233, 234, 235, 236, 237, 238, 239, 240, 241, 242, 243, 244, 245, 246, 247, 104, 248, 3, 249, 111, 112, 113] (by decide +kernel) (by decide +kernel)
set_option maxRecDepth 20000 in
theorem ggL_texts_X6_play_c3 : GoodIn wsL_texts wsX6_play_r3 := goodIn_r _ [250, 251, 252, 253, 127, 128, 129, 47, 130, 131, 132, 133, 134, 135, 136, 99, 137, 138, 139, 43, 140, 59, 63, 67] (by decide +kernel) (by decide +kernel)
set_option maxRecDepth 20000 in
theorem ggL_texts_X6_play_c4 : GoodIn wsL_texts wsX6_play_r4 := goodIn_r _ [69, 141, 142, 143, 144, 145, 146, 147, 148, 149, 58, 150, 118, 73, 151, 74, 75, 152, 153, 154, 62, 155, 83, 156] (by decide +kernel) (by decide +kernel)
set_option maxRecDepth 20000 in
theorem ggL_texts_X6_play_c5 : GoodIn wsL_texts wsX6_play_r5 := goodIn_r _ [84, 85, 86, 87, 88, 89, 157, 158, 159, 66, 160, 161, 93, 162, 94, 254, 255, 256, 257, 258, 179, 175, 176, 177] (by decide +kernel) (by decide +kernel)
set_option maxRecDepth 20000 in
theorem ggL_texts_X6_play_c6 : GoodIn wsL_texts wsX6_play_r6 := goodIn_r _ [178, 180, 181, 182, 183, 123, 124, 125, 126, 184, 185, 186, 187, 119, 120, 121, 122, 188, 189, 190, 191, 192, 193, 194] (by decide +kernel) (by decide +kernel)
set_option maxRecDepth 20000 in
theorem ggL_texts_X6_play_c7 : GoodIn wsL_texts wsX6_play_r7 := goodIn_r _ [195, 196, 197, 198, 199, 200, 201, 202, 203, 204, 205, 206, 207, 208, 259, 260, 261, 262, 263, 264, 265, 266, 267, 268] (by decide +kernel) (by decide +kernel)
set_option maxRecDepth 20000 in
theorem ggL_texts_X6_play_c8 : GoodIn wsL_texts wsX6_play_r8 := goodIn_r _ [79, 269, 270, 271, 272, 273, 274, 275, 276, 277, 278, 279, 280, 281, 282, 283, 284, 285, 286, 287, 288, 289, 290, 291] (by decide +kernel) (by decide +kernel)
set_option maxRecDepth 20000 in
theorem ggL_texts_X6_play_c9 : GoodIn wsL_texts wsX6_play_r9 := goodIn_r _ [292, 293, 294, 295, 296, 297, 298, 299, 300, 301, 302, 303, 304, 305, 306, 307, 308, 309, 310, 311, 312, 313] (by decide +kernel) (by decide +kernel)
set_option maxRecDepth 20000 in
theorem ggL_texts_X6_play_c10 : GoodIn wsL_texts wsX60 := goodIn_r _ [458, 459, 460] (by decide +kernel) (by decide +kernel)
set_option maxRecDepth 20000 in
theorem ggL_texts_X6_play_c11 : GoodIn wsL_texts wsX40 := goodIn_r _ [461, 462, 463, 464, 465, 466] (by decide +kernel) (by decide +kernel)
set_option maxRecDepth 20000 in
theorem ggL_texts_X6_play_c12 : GoodIn wsL_texts wsX10 := goodIn_r _ [479, 480, 481, 482] (by decide +kernel) (by decide +kernel)
set_option maxRecDepth 20000 in
theorem ggL_texts_X6_play_c13 : GoodIn wsL_texts wsX30 := goodIn_r _ [470, 471, 472, 473, 474, 475, 476, 477, 478] (by decide +kernel) (by decide +kernel)
set_option maxRecDepth 20000 in
theorem ggL_texts_X6_play_c14 : GoodIn wsL_texts wsX00 := goodIn_r _ [467, 468, 469] (by decide +kernel) (by decide +kernel)
set_option maxRecDepth 20000 in
theorem ggL_texts_X6_play_c15 : GoodIn wsL_texts wsX50 := goodIn_r _ [483, 484, 485, 486, 487, 488, 489] (by decide +kernel) (by decide +kernel)
set_option maxRecDepth 20000 in
theorem ggL_texts_X6_play_c16 : GoodIn wsL_texts wsX20 := goodIn_r _ [490, 491, 492] (by decide +kernel) (by decide +kernel)
theorem ggL_texts_X6_play : GoodIn wsL_texts wsX6_play := by
  intro w h
  rcases List.mem_cons.mp h with h | h
  · exact ggL_texts_X6_play_c0 w (List.mem_singleton.mpr h)
  rcases List.mem_append.mp h with h | h
  case inr => exact ggL_texts_X6_play_c16 w h
  rcases List.mem_append.mp h with h | h
  case inr => exact ggL_texts_X6_play_c15 w h
  rcases List.mem_append.mp h with h | h
  case inr => exact ggL_texts_X6_play_c14 w h
  rcases List.mem_append.mp h with h | h
  case inr => exact ggL_texts_X6_play_c13 w h
  rcases List.mem_append.mp h with h | h
  case inr => exact ggL_texts_X6_play_c12 w h
  rcases List.mem_append.mp h with h | h
  case inr => exact ggL_texts_X6_play_c11 w h
  rcases List.mem_append.mp h with h | h
  case inr => exact ggL_texts_X6_play_c10 w h
  rcases List.mem_append.mp h with h | h
  · exact ggL_texts_X6_play_c1 w h
  rcases List.mem_append.mp h with h | h
  · exact ggL_texts_X6_play_c2 w h
  rcases List.mem_append.mp h with h | h
  · exact ggL_texts_X6_play_c3 w h
  rcases List.mem_append.mp h with h | h
  · exact ggL_texts_X6_play_c4 w h
  rcases List.mem_append.mp h with h | h
  · exact ggL_texts_X6_play_c5 w h
  rcases List.mem_append.mp h with h | h
  · exact ggL_texts_X6_play_c6 w h
  rcases List.mem_append.mp h with h | h
  · exact ggL_texts_X6_play_c7 w h
  rcases List.mem_append.mp h with h | h
  · exact ggL_texts_X6_play_c8 w h
  exact ggL_texts_X6_play_c9 w h
set_option maxRecDepth 20000 in
theorem gL_texts_X6_play : GoodIn wsL_texts (wsV RL 113 RX6 yX6_play wsX6_play) := goodIn_app (goodIn_of _ (by decide +kernel)) ggL_texts_X6_play
set_option maxRecDepth 20000 in
theorem ggL_texts_X6_count_c0 : GoodIn wsL_texts [.code yX6_count cX6_count 2 (some .int)] := goodIn_r _ [317] (by decide +kernel) (by decide +kernel)
set_option maxRecDepth 20000 in
theorem ggL_texts_X6_count_c1 : GoodIn wsL_texts wsX6_count_r1 := goodIn_r _ [44, 109, 110, 213, 318, 319, 320, 321, 322, 48, 323, 52, 324, 325, 326, 327, 43, 328, 329, 330, 331, 332, 333, 334] (by decide +kernel) (by decide +kernel)
set_option maxRecDepth 20000 in
theorem ggL_texts_X6_count_c2 : GoodIn wsL_texts wsX6_count_r2 := goodIn_r _ [335, 336, 63, 308, 285, 286, 62, 287, 89, 337, 338, 339, 340, 69, 341, 342, 343, 344, 345, 346, 347, 348, 349, 350] (by decide +kernel) (by decide +kernel)
set_option maxRecDepth 20000 in
theorem ggL_texts_X6_count_c3 : GoodIn wsL_texts wsX6_count_r3 := goodIn_r _ [351, 352, 353, 354, 355, 87, 84, 356, 357, 358, 359, 86] (by decide +kernel) (by decide +kernel)
set_option maxRecDepth 20000 in
theorem ggL_texts_X6_count_c4 : GoodIn wsL_texts wsX60 := goodIn_r _ [458, 459, 460] (by decide +kernel) (by decide +kernel)
set_option maxRecDepth 20000 in
theorem ggL_texts_X6_count_c5 : GoodIn wsL_texts wsX40 := goodIn_r _ [461, 462, 463, 464, 465, 466] (by decide +kernel) (by decide +kernel)
set_option maxRecDepth 20000 in
theorem ggL_texts_X6_count_c6 : GoodIn wsL_texts wsX10 := goodIn_r _ [479, 480, 481, 482] (by decide +kernel) (by decide +kernel)
set_option maxRecDepth 20000 in
theorem ggL_texts_X6_count_c7 : GoodIn wsL_texts wsX20 := goodIn_r _ [490, 491, 492] (by decide +kernel) (by decide +kernel)
set_option maxRecDepth 20000 in
theorem ggL_texts_X6_count_c8 : GoodIn wsL_texts wsX00 := goodIn_r _ [467, 468, 469] (by decide +kernel) (by decide +kernel)
set_option maxRecDepth 20000 in
theorem ggL_texts_X6_count_c9 : GoodIn wsL_texts wsX30 := goodIn_r _ [470, 471, 472, 473, 474, 475, 476, 477, 478] (by decide +kernel) (by decide +kernel)
set_option maxRecDepth 20000 in
theorem ggL_texts_X6_count_c10 : GoodIn wsL_texts wsX50 := goodIn_r _ [483, 484, 485, 486, 487, 488, 489] (by decide +kernel) (by decide +kernel)
theorem ggL_texts_X6_count : GoodIn wsL_texts wsX6_count := by
  intro w h
  rcases List.mem_cons.mp h with h | h
  · exact ggL_texts_X6_count_c0 w (List.mem_singleton.mpr h)
  rcases List.mem_append.mp h with h | h
  case inr => exact ggL_texts_X6_count_c10 w h
  rcases List.mem_append.mp h with h | h
  case inr => exact ggL_texts_X6_count_c9 w h
  rcases List.mem_append.mp h with h | h
  case inr => exact ggL_texts_X6_count_c8 w h
  rcases List.mem_append.mp h with h | h
  case inr => exact ggL_texts_X6_count_c7 w h
  rcases List.mem_append.mp h with h | h
  case inr => exact ggL_texts_X6_count_c6 w h
  rcases List.mem_append.mp h with h | h
  case inr => exact ggL_texts_X6_count_c5 w h
  rcases List.mem_append.mp h with h | h
  case inr => exact ggL_texts_X6_count_c4 w h
  rcases List.mem_append.mp h with h | h
  · exact ggL_texts_X6_count_c1 w h
  rcases List.mem_append.mp h with h | h
  · exact ggL_texts_X6_count_c2 w h
  exact ggL_texts_X6_count_c3 w h
set_option maxRecDepth 20000 in
theorem gL_texts_X6_count : GoodIn wsL_texts (wsV RL 13 RX6 yX6_count wsX6_count) := goodIn_app (goodIn_of _ (by decide +kernel)) ggL_texts_X6_count
set_option maxRecDepth 20000 in
theorem ggL_texts_L_isFault_c0 : GoodIn wsL_texts [.code yL_isFault cL_isFault 7 (some .boolean)] := goodIn_r _ [363] (by decide +kernel) (by decide +kernel)
set_option maxRecDepth 20000 in
theorem ggL_texts_L_isFault_c1 : GoodIn wsL_texts wsL_isFault_r1 := goodIn_r _ [364, 365, 366, 3, 367, 52, 324, 368, 369, 362, 370, 371, 372, 373, 374, 375, 111, 112, 113, 376, 377, 378, 51, 379] (by decide +kernel) (by decide +kernel)
set_option maxRecDepth 20000 in
theorem ggL_texts_L_isFault_c2 : GoodIn wsL_texts wsL_isFault_r2 := goodIn_r _ [223, 104, 380, 381, 382, 383, 44, 109, 110, 213, 384, 219, 220, 221, 222, 224, 225, 226, 227, 228, 229, 230, 231, 232] (by decide +kernel) (by decide +kernel)
set_option maxRecDepth 20000 in
theorem ggL_texts_L_isFault_c3 : GoodIn wsL_texts wsL_isFault_r3 := goodIn_r _ [233, 234, 235, 236, 237, 238, 239, 240, 241, 242, 243, 244, 245, 246, 247, 248, 249, 250, 251, 252, 253] (by decide +kernel) (by decide +kernel)
set_option maxRecDepth 20000 in
theorem ggL_texts_L_isFault_c4 : GoodIn wsL_texts wsX60 := goodIn_r _ [458, 459, 460] (by decide +kernel) (by decide +kernel)
set_option maxRecDepth 20000 in
theorem ggL_texts_L_isFault_c5 : GoodIn wsL_texts wsX30 := goodIn_r _ [470, 471, 472, 473, 474, 475, 476, 477, 478] (by decide +kernel) (by decide +kernel)
set_option maxRecDepth 20000 in
theorem ggL_texts_L_isFault_c6 : GoodIn wsL_texts wsX40 := goodIn_r _ [461, 462, 463, 464, 465, 466] (by decide +kernel) (by decide +kernel)
set_option maxRecDepth 20000 in
theorem ggL_texts_L_isFault_c7 : GoodIn wsL_texts wsX10 := goodIn_r _ [479, 480, 481, 482] (by decide +kernel) (by decide +kernel)
theorem ggL_texts_L_isFault : GoodIn wsL_texts wsL_isFault := by
  intro w h
  rcases List.mem_cons.mp h with h | h
  · exact ggL_texts_L_isFault_c0 w (List.mem_singleton.mpr h)
  rcases List.mem_append.mp h with h | h
  case inr => exact ggL_texts_L_isFault_c7 w h
  rcases List.mem_append.mp h with h | h
  case inr => exact ggL_texts_L_isFault_c6 w h
  rcases List.mem_append.mp h with h | h
  case inr => exact ggL_texts_L_isFault_c5 w h
  rcases List.mem_append.mp h with h | h
  case inr => exact ggL_texts_L_isFault_c4 w h
  rcases List.mem_append.mp h with h | h
  · exact ggL_texts_L_isFault_c1 w h
  rcases List.mem_append.mp h with h | h
  · exact ggL_texts_L_isFault_c2 w h
  exact ggL_texts_L_isFault_c3 w h
set_option maxRecDepth 20000 in
theorem gL_texts_L_isFault : GoodIn wsL_texts (va_wsS RL 118 yL_isFault wsL_isFault) := goodIn_app (goodIn_of _ (by decide +kernel)) ggL_texts_L_isFault
