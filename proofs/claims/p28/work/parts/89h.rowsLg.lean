set_option maxRecDepth 20000 in
theorem ggL_known_L_refused_c0 : GoodIn wsL_known [.code yL_refused cL_refused 6 (some .boolean)] := goodIn_r _ [85] (by decide +kernel) (by decide +kernel)
set_option maxRecDepth 20000 in
theorem ggL_known_L_refused_c1 : GoodIn wsL_known wsL_refused_r1 := goodIn_r _ [86, 87, 88, 89, 84, 90, 91, 92, 93, 94, 3, 95, 21, 96, 97, 98, 99, 100, 101, 102, 103, 25, 104, 29] (by decide +kernel) (by decide +kernel)
set_option maxRecDepth 20000 in
theorem ggL_known_L_refused_c2 : GoodIn wsL_known wsL_refused_r2 := goodIn_r _ [105, 106, 107, 108, 20, 109, 110, 111, 112, 113, 114, 115, 116, 117, 40, 118, 119, 120, 39, 121, 66, 122, 123, 124] (by decide +kernel) (by decide +kernel)
set_option maxRecDepth 20000 in
theorem ggL_known_L_refused_c3 : GoodIn wsL_known wsL_refused_r3 := goodIn_r _ [125, 46, 126, 127, 128, 129, 130, 131, 132, 133, 134, 135, 136, 137, 138, 139, 140, 64, 61, 141, 142, 143, 144, 63] (by decide +kernel) (by decide +kernel)
set_option maxRecDepth 20000 in
theorem ggL_known_L_refused_c4 : GoodIn wsL_known wsL_refused_r4 := goodIn_r _ [145, 146, 147, 148, 149, 150, 151, 152, 153, 154, 155, 35, 156, 157, 158, 159, 160, 161, 162, 163, 50, 164, 165, 166] (by decide +kernel) (by decide +kernel)
set_option maxRecDepth 20000 in
theorem ggL_known_L_refused_c5 : GoodIn wsL_known wsL_refused_r5 := goodIn_r _ [167, 168, 51, 169, 170, 171, 172, 52, 173, 174, 175, 176, 177, 178, 179, 180, 181, 182, 183, 184, 185, 186, 187, 188] (by decide +kernel) (by decide +kernel)
set_option maxRecDepth 20000 in
theorem ggL_known_L_refused_c6 : GoodIn wsL_known wsL_refused_r6 := goodIn_r _ [189, 190, 191, 192, 193, 194, 195, 196, 197, 198, 199, 200, 201, 202, 203, 204, 205, 206, 207, 208, 209, 210, 211, 212] (by decide +kernel) (by decide +kernel)
set_option maxRecDepth 20000 in
theorem ggL_known_L_refused_c7 : GoodIn wsL_known wsL_refused_r7 := goodIn_r _ [213, 214, 215, 65, 216, 217, 218, 219, 220, 221, 222, 223, 224, 225, 226, 227, 228, 229, 230, 231, 232, 233, 60, 234] (by decide +kernel) (by decide +kernel)
set_option maxRecDepth 20000 in
theorem ggL_known_L_refused_c8 : GoodIn wsL_known wsL_refused_r8 := goodIn_r _ [235, 236, 237, 238, 239, 240, 241, 242, 243, 244, 245, 246, 247, 43, 248, 249, 250, 251, 252, 253, 70, 254, 255, 256] (by decide +kernel) (by decide +kernel)
set_option maxRecDepth 20000 in
theorem ggL_known_L_refused_c9 : GoodIn wsL_known wsL_refused_r9 := goodIn_r _ [257, 258, 259, 260, 261, 71, 262, 263, 264, 265, 266, 267, 268, 269, 270, 271, 272, 273, 24, 274, 275, 276, 277, 278] (by decide +kernel) (by decide +kernel)
set_option maxRecDepth 20000 in
theorem ggL_known_L_refused_c10 : GoodIn wsL_known wsL_refused_r10 := goodIn_r _ [279, 280, 76, 281, 282, 283, 284, 36, 44, 285, 286, 287, 288, 289, 290, 291, 292, 293, 294, 295, 296, 297, 298, 299] (by decide +kernel) (by decide +kernel)
set_option maxRecDepth 20000 in
theorem ggL_known_L_refused_c11 : GoodIn wsL_known wsL_refused_r11 := goodIn_r _ [300, 62, 301, 302, 303, 304, 305, 306, 307, 308, 309, 310, 311, 312, 313, 314, 315, 316, 317, 318, 319, 320, 321, 322] (by decide +kernel) (by decide +kernel)
set_option maxRecDepth 20000 in
theorem ggL_known_L_refused_c12 : GoodIn wsL_known wsL_refused_r12 := goodIn_r _ [323, 324, 325, 326, 327, 328, 329, 330, 331, 332, 333, 334, 335, 336, 337, 338, 339, 340, 341, 342, 343, 344, 345, 346] (by decide +kernel) (by decide +kernel)
set_option maxRecDepth 20000 in
theorem ggL_known_L_refused_c13 : GoodIn wsL_known wsL_refused_r13 := goodIn_r _ [347, 348, 349, 350, 351, 352, 353, 354, 355, 356, 357, 358, 56, 359, 360, 361, 362, 363, 364, 365, 366, 367, 368, 369] (by decide +kernel) (by decide +kernel)
set_option maxRecDepth 20000 in
theorem ggL_known_L_refused_c14 : GoodIn wsL_known wsL_refused_r14 := goodIn_r _ [370, 371, 372, 373, 374, 375, 376, 377, 378, 379, 380, 381, 382, 383, 384, 385, 386, 387, 388, 389, 390, 391, 392, 393] (by decide +kernel) (by decide +kernel)
set_option maxRecDepth 20000 in
theorem ggL_known_L_refused_c15 : GoodIn wsL_known wsL_refused_r15 := goodIn_r _ [394, 395, 396, 397, 398, 399, 400, 401, 402, 403, 404, 405, 406, 407, 408, 409, 410, 411, 412, 413, 414, 415, 416, 417] (by decide +kernel) (by decide +kernel)
set_option maxRecDepth 20000 in
theorem ggL_known_L_refused_c16 : GoodIn wsL_known wsL_refused_r16 := goodIn_r _ [418, 419, 420, 421, 422, 423, 424, 425, 426, 427, 428, 429, 430, 431, 432, 433, 434, 435, 436, 437, 438, 439, 440, 441] (by decide +kernel) (by decide +kernel)
set_option maxRecDepth 20000 in
theorem ggL_known_L_refused_c17 : GoodIn wsL_known wsL_refused_r17 := goodIn_r _ [442, 443, 444, 445, 446, 447, 448, 449, 450, 451, 452, 453, 454, 455, 456, 457, 458, 459, 460, 461, 462, 463, 464, 465] (by decide +kernel) (by decide +kernel)
set_option maxRecDepth 20000 in
theorem ggL_known_L_refused_c18 : GoodIn wsL_known wsL_refused_r18 := goodIn_r _ [466, 467, 468, 469, 470, 471, 472, 473, 474, 475, 476, 477, 478, 479, 480, 481, 482, 483, 484, 485, 486, 487, 488, 489] (by decide +kernel) (by decide +kernel)
set_option maxRecDepth 20000 in
theorem ggL_known_L_refused_c19 : GoodIn wsL_known wsL_refused_r19 := goodIn_r _ [490, 491, 492, 493, 494, 495, 496, 497, 28, 498, 499, 81, 500, 501, 502, 503, 504, 505, 506, 507, 508, 509, 510, 511] (by decide +kernel) (by decide +kernel)
set_option maxRecDepth 20000 in
theorem ggL_known_L_refused_c20 : GoodIn wsL_known wsL_refused_r20 := goodIn_r _ [512, 513, 514, 515, 516, 517, 518, 519, 520, 521, 522, 523, 524, 525, 526, 527, 528, 529, 530, 531, 532, 533, 534, 535] (by decide +kernel) (by decide +kernel)
set_option maxRecDepth 20000 in
theorem ggL_known_L_refused_c21 : GoodIn wsL_known wsL_refused_r21 := goodIn_r _ [536] (by decide +kernel) (by decide +kernel)
set_option maxRecDepth 20000 in
theorem ggL_known_L_refused_c22 : GoodIn wsL_known wsX60 := goodIn_r _ [545, 546, 547] (by decide +kernel) (by decide +kernel)
set_option maxRecDepth 20000 in
theorem ggL_known_L_refused_c23 : GoodIn wsL_known wsX40 := goodIn_r _ [548, 549, 550, 551, 552, 553] (by decide +kernel) (by decide +kernel)
set_option maxRecDepth 20000 in
theorem ggL_known_L_refused_c24 : GoodIn wsL_known wsX10 := goodIn_r _ [566, 567, 568, 569] (by decide +kernel) (by decide +kernel)
set_option maxRecDepth 20000 in
theorem ggL_known_L_refused_c25 : GoodIn wsL_known wsX20 := goodIn_r _ [577, 578, 579] (by decide +kernel) (by decide +kernel)
set_option maxRecDepth 20000 in
theorem ggL_known_L_refused_c26 : GoodIn wsL_known wsX00 := goodIn_r _ [554, 555, 556] (by decide +kernel) (by decide +kernel)
set_option maxRecDepth 20000 in
theorem ggL_known_L_refused_c27 : GoodIn wsL_known wsX30 := goodIn_r _ [557, 558, 559, 560, 561, 562, 563, 564, 565] (by decide +kernel) (by decide +kernel)
set_option maxRecDepth 20000 in
theorem ggL_known_L_refused_c28 : GoodIn wsL_known wsX50 := goodIn_r _ [570, 571, 572, 573, 574, 575, 576] (by decide +kernel) (by decide +kernel)
theorem ggL_known_L_refused : GoodIn wsL_known wsL_refused := by
  intro w h
  rcases List.mem_cons.mp h with h | h
  · exact ggL_known_L_refused_c0 w (List.mem_singleton.mpr h)
  rcases List.mem_append.mp h with h | h
  case inr => exact ggL_known_L_refused_c28 w h
  rcases List.mem_append.mp h with h | h
  case inr => exact ggL_known_L_refused_c27 w h
  rcases List.mem_append.mp h with h | h
  case inr => exact ggL_known_L_refused_c26 w h
  rcases List.mem_append.mp h with h | h
  case inr => exact ggL_known_L_refused_c25 w h
  rcases List.mem_append.mp h with h | h
  case inr => exact ggL_known_L_refused_c24 w h
  rcases List.mem_append.mp h with h | h
  case inr => exact ggL_known_L_refused_c23 w h
  rcases List.mem_append.mp h with h | h
  case inr => exact ggL_known_L_refused_c22 w h
  rcases List.mem_append.mp h with h | h
  · exact ggL_known_L_refused_c1 w h
  rcases List.mem_append.mp h with h | h
  · exact ggL_known_L_refused_c2 w h
  rcases List.mem_append.mp h with h | h
  · exact ggL_known_L_refused_c3 w h
  rcases List.mem_append.mp h with h | h
  · exact ggL_known_L_refused_c4 w h
  rcases List.mem_append.mp h with h | h
  · exact ggL_known_L_refused_c5 w h
  rcases List.mem_append.mp h with h | h
  · exact ggL_known_L_refused_c6 w h
  rcases List.mem_append.mp h with h | h
  · exact ggL_known_L_refused_c7 w h
  rcases List.mem_append.mp h with h | h
  · exact ggL_known_L_refused_c8 w h
  rcases List.mem_append.mp h with h | h
  · exact ggL_known_L_refused_c9 w h
  rcases List.mem_append.mp h with h | h
  · exact ggL_known_L_refused_c10 w h
  rcases List.mem_append.mp h with h | h
  · exact ggL_known_L_refused_c11 w h
  rcases List.mem_append.mp h with h | h
  · exact ggL_known_L_refused_c12 w h
  rcases List.mem_append.mp h with h | h
  · exact ggL_known_L_refused_c13 w h
  rcases List.mem_append.mp h with h | h
  · exact ggL_known_L_refused_c14 w h
  rcases List.mem_append.mp h with h | h
  · exact ggL_known_L_refused_c15 w h
  rcases List.mem_append.mp h with h | h
  · exact ggL_known_L_refused_c16 w h
  rcases List.mem_append.mp h with h | h
  · exact ggL_known_L_refused_c17 w h
  rcases List.mem_append.mp h with h | h
  · exact ggL_known_L_refused_c18 w h
  rcases List.mem_append.mp h with h | h
  · exact ggL_known_L_refused_c19 w h
  rcases List.mem_append.mp h with h | h
  · exact ggL_known_L_refused_c20 w h
  exact ggL_known_L_refused_c21 w h
set_option maxRecDepth 20000 in
theorem gL_known_L_refused : GoodIn wsL_known (va_wsS RL 185 yL_refused wsL_refused) := goodIn_app (goodIn_of _ (by decide +kernel)) ggL_known_L_refused
set_option maxRecDepth 20000 in
theorem ggL_known_X6_undo_c0 : GoodIn wsL_known [.code yX6_undo cX6_undo 1 (some .int)] := goodIn_r _ [540] (by decide +kernel) (by decide +kernel)
set_option maxRecDepth 20000 in
theorem ggL_known_X6_undo_c1 : GoodIn wsL_known wsX6_undo_r1 := goodIn_r _ [25, 104, 21, 541, 542, 543, 24, 544, 275, 277, 278, 279, 280, 276, 76, 281, 282, 283, 20, 284, 36, 40, 44, 46] (by decide +kernel) (by decide +kernel)
set_option maxRecDepth 20000 in
theorem ggL_known_X6_undo_c2 : GoodIn wsL_known wsX6_undo_r2 := goodIn_r _ [285, 286, 287, 288, 289, 290, 291, 292, 293, 35, 294, 157, 50, 295, 51, 52, 296, 297, 298, 39, 299, 60, 300, 61] (by decide +kernel) (by decide +kernel)
set_option maxRecDepth 20000 in
theorem ggL_known_X6_undo_c3 : GoodIn wsL_known wsX6_undo_r3 := goodIn_r _ [62, 63, 64, 65, 66, 301, 302, 303, 43, 304, 253, 70, 305, 71] (by decide +kernel) (by decide +kernel)
set_option maxRecDepth 20000 in
theorem ggL_known_X6_undo_c4 : GoodIn wsL_known wsX60 := goodIn_r _ [545, 546, 547] (by decide +kernel) (by decide +kernel)
set_option maxRecDepth 20000 in
theorem ggL_known_X6_undo_c5 : GoodIn wsL_known wsX00 := goodIn_r _ [554, 555, 556] (by decide +kernel) (by decide +kernel)
set_option maxRecDepth 20000 in
theorem ggL_known_X6_undo_c6 : GoodIn wsL_known wsX40 := goodIn_r _ [548, 549, 550, 551, 552, 553] (by decide +kernel) (by decide +kernel)
set_option maxRecDepth 20000 in
theorem ggL_known_X6_undo_c7 : GoodIn wsL_known wsX10 := goodIn_r _ [566, 567, 568, 569] (by decide +kernel) (by decide +kernel)
set_option maxRecDepth 20000 in
theorem ggL_known_X6_undo_c8 : GoodIn wsL_known wsX50 := goodIn_r _ [570, 571, 572, 573, 574, 575, 576] (by decide +kernel) (by decide +kernel)
set_option maxRecDepth 20000 in
theorem ggL_known_X6_undo_c9 : GoodIn wsL_known wsX20 := goodIn_r _ [577, 578, 579] (by decide +kernel) (by decide +kernel)
theorem ggL_known_X6_undo : GoodIn wsL_known wsX6_undo := by
  intro w h
  rcases List.mem_cons.mp h with h | h
  · exact ggL_known_X6_undo_c0 w (List.mem_singleton.mpr h)
  rcases List.mem_append.mp h with h | h
  case inr => exact ggL_known_X6_undo_c9 w h
  rcases List.mem_append.mp h with h | h
  case inr => exact ggL_known_X6_undo_c8 w h
  rcases List.mem_append.mp h with h | h
  case inr => exact ggL_known_X6_undo_c7 w h
  rcases List.mem_append.mp h with h | h
  case inr => exact ggL_known_X6_undo_c6 w h
  rcases List.mem_append.mp h with h | h
  case inr => exact ggL_known_X6_undo_c5 w h
  rcases List.mem_append.mp h with h | h
  case inr => exact ggL_known_X6_undo_c4 w h
  rcases List.mem_append.mp h with h | h
  · exact ggL_known_X6_undo_c1 w h
  rcases List.mem_append.mp h with h | h
  · exact ggL_known_X6_undo_c2 w h
  exact ggL_known_X6_undo_c3 w h
set_option maxRecDepth 20000 in
theorem gL_known_X6_undo : GoodIn wsL_known (wsV RL 180 RX6 yX6_undo wsX6_undo) := goodIn_app (goodIn_of _ (by decide +kernel)) ggL_known_X6_undo
set_option maxRecDepth 20000 in
theorem ggL_known_X6_stringInfo_c0 : GoodIn wsL_known [.code yX6_stringInfo cX6_stringInfo 3 (some .int)] := goodIn_r _ [201] (by decide +kernel) (by decide +kernel)
set_option maxRecDepth 20000 in
theorem ggL_known_X6_stringInfo_c1 : GoodIn wsL_known wsX6_stringInfo_r1 := goodIn_r _ [21, 99, 202, 203, 204, 205, 206, 207, 208, 3, 209, 210, 158, 159, 211, 138, 139, 39, 140, 64, 61, 212, 213, 214] (by decide +kernel) (by decide +kernel)
set_option maxRecDepth 20000 in
theorem ggL_known_X6_stringInfo_c2 : GoodIn wsL_known wsX6_stringInfo_r2 := goodIn_r _ [215, 65, 216, 115, 116, 20, 117, 40, 118, 119, 120, 121, 66, 122, 123, 124, 125, 46, 217, 218, 219, 220, 221] (by decide +kernel) (by decide +kernel)
set_option maxRecDepth 20000 in
theorem ggL_known_X6_stringInfo_c3 : GoodIn wsL_known wsX60 := goodIn_r _ [545, 546, 547] (by decide +kernel) (by decide +kernel)
set_option maxRecDepth 20000 in
theorem ggL_known_X6_stringInfo_c4 : GoodIn wsL_known wsX40 := goodIn_r _ [548, 549, 550, 551, 552, 553] (by decide +kernel) (by decide +kernel)
set_option maxRecDepth 20000 in
theorem ggL_known_X6_stringInfo_c5 : GoodIn wsL_known wsX50 := goodIn_r _ [570, 571, 572, 573, 574, 575, 576] (by decide +kernel) (by decide +kernel)
theorem ggL_known_X6_stringInfo : GoodIn wsL_known wsX6_stringInfo := by
  intro w h
  rcases List.mem_cons.mp h with h | h
  · exact ggL_known_X6_stringInfo_c0 w (List.mem_singleton.mpr h)
  rcases List.mem_append.mp h with h | h
  case inr => exact ggL_known_X6_stringInfo_c5 w h
  rcases List.mem_append.mp h with h | h
  case inr => exact ggL_known_X6_stringInfo_c4 w h
  rcases List.mem_append.mp h with h | h
  case inr => exact ggL_known_X6_stringInfo_c3 w h
  rcases List.mem_append.mp h with h | h
  · exact ggL_known_X6_stringInfo_c1 w h
  exact ggL_known_X6_stringInfo_c2 w h
set_option maxRecDepth 20000 in
theorem gL_known_X6_stringInfo : GoodIn wsL_known (wsV RL 29 RX6 yX6_stringInfo wsX6_stringInfo) := goodIn_app (goodIn_of _ (by decide +kernel)) ggL_known_X6_stringInfo
