set_option maxRecDepth 20000 in
theorem ggL_law_L_known_c0 : GoodIn wsL_law [.code yL_known cL_known 1 (some .boolean)] := fun w h => by
  obtain rfl := List.mem_singleton.mp h
  exact ⟨List.mem_of_getElem? (i := 464) rfl, good_of_word (by decide +kernel)⟩
set_option maxRecDepth 20000 in
theorem ggL_law_L_known_c1 : GoodIn wsL_law wsL_known_r1 := goodIn_r _ [0, 1, 2, 465, 466, 467, 468, 469, 470, 471, 472, 40, 41, 42, 43, 44, 45, 46, 47, 48, 49, 50, 51, 52] (by decide +kernel) (by decide +kernel)
set_option maxRecDepth 20000 in
theorem ggL_law_L_known_c2 : GoodIn wsL_law wsL_known_r2 := goodIn_r _ [53, 54, 55, 56, 57, 58, 59, 60, 61, 62, 63, 64, 65, 66, 67, 68, 69, 70, 71, 72, 73, 74, 75, 76] (by decide +kernel) (by decide +kernel)
set_option maxRecDepth 20000 in
theorem ggL_law_L_known_c3 : GoodIn wsL_law wsL_known_r3 := goodIn_r _ [77, 78, 79, 80, 81, 82, 83, 84, 85, 86, 87, 88, 89, 90, 91, 92, 93, 94, 95, 96, 97, 98, 99, 100] (by decide +kernel) (by decide +kernel)
set_option maxRecDepth 20000 in
theorem ggL_law_L_known_c4 : GoodIn wsL_law wsL_known_r4 := goodIn_r _ [101, 102, 103, 104, 105, 106, 107, 108, 109, 473, 474, 7, 475, 476, 477, 478, 479, 480, 481, 319, 320, 321, 322, 114] (by decide +kernel) (by decide +kernel)
set_option maxRecDepth 20000 in
theorem ggL_law_L_known_c5 : GoodIn wsL_law wsL_known_r5 := goodIn_r _ [115, 218, 323, 324, 325, 326, 327, 328, 329, 330, 331, 332, 333, 334, 335, 336, 337, 338, 339, 340, 341, 313, 290, 291] (by decide +kernel) (by decide +kernel)
set_option maxRecDepth 20000 in
theorem ggL_law_L_known_c6 : GoodIn wsL_law wsL_known_r6 := goodIn_r _ [292, 342, 343, 344, 345, 346, 347, 348, 349, 350, 351, 352, 353, 354, 355, 356, 357, 358, 359, 360, 361, 362, 363, 364] (by decide +kernel) (by decide +kernel)
set_option maxRecDepth 20000 in
theorem ggL_law_L_known_c7 : GoodIn wsL_law wsL_known_r7 := goodIn_r _ [482, 483, 484, 485, 426, 427, 428, 429, 430, 129, 130, 131, 123, 117, 118, 431, 125, 126, 127, 128, 432, 190, 191, 192] (by decide +kernel) (by decide +kernel)
set_option maxRecDepth 20000 in
theorem ggL_law_L_known_c8 : GoodIn wsL_law wsL_known_r8 := goodIn_r _ [433, 434, 435, 436, 437, 438, 439, 440, 441, 442, 443, 444, 445, 446, 447, 448, 186, 187, 188, 189, 124, 193, 194, 195] (by decide +kernel) (by decide +kernel)
set_option maxRecDepth 20000 in
theorem ggL_law_L_known_c9 : GoodIn wsL_law wsL_known_r9 := goodIn_r _ [196, 197, 198, 199, 200, 409, 410, 411, 412, 413, 414, 415, 416, 417, 418, 253, 254, 116, 419, 420, 283, 284, 285, 421] (by decide +kernel) (by decide +kernel)
set_option maxRecDepth 20000 in
theorem ggL_law_L_known_c10 : GoodIn wsL_law wsL_known_r10 := goodIn_r _ [422, 423, 424, 425, 289, 486, 487, 488, 489, 490, 491, 492, 493, 494, 495, 496, 497, 282, 498, 499, 500, 501, 502, 503] (by decide +kernel) (by decide +kernel)
set_option maxRecDepth 20000 in
theorem ggL_law_L_known_c11 : GoodIn wsL_law wsL_known_r11 := goodIn_r _ [389, 390, 391, 392, 393, 394, 395, 396, 397, 398, 399, 400, 166, 401, 402, 403, 404, 405, 406, 407, 408, 504, 505, 506] (by decide +kernel) (by decide +kernel)
set_option maxRecDepth 20000 in
theorem ggL_law_L_known_c12 : GoodIn wsL_law wsL_known_r12 := goodIn_r _ [507, 508, 509, 510, 511, 512, 132, 133, 134, 135, 136, 137, 138, 139, 140, 141, 142, 143, 144, 145, 146, 147, 148, 149] (by decide +kernel) (by decide +kernel)
set_option maxRecDepth 20000 in
theorem ggL_law_L_known_c13 : GoodIn wsL_law wsL_known_r13 := goodIn_r _ [150, 151, 152, 153, 154, 155, 156, 157, 158, 159, 160, 161, 162, 163, 164, 165, 167, 513, 514, 515, 516, 517, 518, 519] (by decide +kernel) (by decide +kernel)
set_option maxRecDepth 20000 in
theorem ggL_law_L_known_c14 : GoodIn wsL_law wsL_known_r14 := goodIn_r _ [520, 260, 261, 262, 263, 184, 180, 181, 182, 183, 185, 201, 202, 203, 204, 205, 206, 207, 208, 209, 210, 211, 212, 213] (by decide +kernel) (by decide +kernel)
set_option maxRecDepth 20000 in
theorem ggL_law_L_known_c15 : GoodIn wsL_law wsL_known_r15 := goodIn_r _ [521, 522, 523, 524, 525, 526, 527, 528, 529, 530, 531, 532, 264, 265, 266, 267, 268, 269, 270, 271, 272, 273, 274, 275] (by decide +kernel) (by decide +kernel)
set_option maxRecDepth 20000 in
theorem ggL_law_L_known_c16 : GoodIn wsL_law wsL_known_r16 := goodIn_r _ [276, 277, 278, 279, 280, 281, 286, 287, 288, 293, 294, 295, 296, 297, 298, 299, 300, 301, 302, 303, 304, 533, 534, 535] (by decide +kernel) (by decide +kernel)
set_option maxRecDepth 20000 in
theorem ggL_law_L_known_c17 : GoodIn wsL_law wsL_known_r17 := goodIn_r _ [536, 537, 538, 539, 540, 541, 542, 543, 544, 545, 546, 547, 548, 549, 550, 551, 552, 553, 554, 555, 556, 557, 558, 559] (by decide +kernel) (by decide +kernel)
set_option maxRecDepth 20000 in
theorem ggL_law_L_known_c18 : GoodIn wsL_law wsL_known_r18 := goodIn_r _ [309, 310, 311, 312, 314, 315, 316, 317, 560, 561, 562, 563, 564, 565, 566, 567, 568, 569, 570, 571, 572, 573, 574, 575] (by decide +kernel) (by decide +kernel)
set_option maxRecDepth 20000 in
theorem ggL_law_L_known_c19 : GoodIn wsL_law wsL_known_r19 := goodIn_r _ [576, 577, 578, 579, 580, 110, 111, 112, 113, 119, 120, 121, 122, 168, 169, 170, 171, 172, 173, 174, 175, 176, 177, 178] (by decide +kernel) (by decide +kernel)
set_option maxRecDepth 20000 in
theorem ggL_law_L_known_c20 : GoodIn wsL_law wsL_known_r20 := goodIn_r _ [179, 581, 582, 583, 584, 585, 586, 587, 588, 589, 590, 591, 592, 593, 594, 595, 596, 597, 598, 599, 600, 601, 602, 603] (by decide +kernel) (by decide +kernel)
set_option maxRecDepth 20000 in
theorem ggL_law_L_known_c21 : GoodIn wsL_law wsL_known_r21 := goodIn_r _ [457, 458, 459, 460, 461, 305, 306, 307, 308, 318, 376, 377, 378, 379, 380, 381, 382, 383, 228, 384, 385, 386, 387, 388] (by decide +kernel) (by decide +kernel)
set_option maxRecDepth 20000 in
theorem ggL_law_L_known_c22 : GoodIn wsL_law wsL_known_r22 := goodIn_r _ [224, 225, 226, 227, 229, 230, 231, 232, 233, 234, 235, 236, 237, 238, 239, 240, 241, 242, 243, 244, 245, 246, 247, 248] (by decide +kernel) (by decide +kernel)
set_option maxRecDepth 20000 in
theorem ggL_law_L_known_c23 : GoodIn wsL_law wsL_known_r23 := goodIn_r _ [249, 250, 251, 252, 255, 256, 257, 258, 449, 450, 451, 452, 453, 454, 455, 456] (by decide +kernel) (by decide +kernel)
set_option maxRecDepth 20000 in
theorem ggL_law_L_known_c24 : GoodIn wsL_law wsX60 := goodIn_r _ [612, 613, 614] (by decide +kernel) (by decide +kernel)
set_option maxRecDepth 20000 in
theorem ggL_law_L_known_c25 : GoodIn wsL_law wsX40 := goodIn_r _ [615, 616, 617, 618, 619, 620] (by decide +kernel) (by decide +kernel)
set_option maxRecDepth 20000 in
theorem ggL_law_L_known_c26 : GoodIn wsL_law wsX00 := goodIn_r _ [621, 622, 623] (by decide +kernel) (by decide +kernel)
set_option maxRecDepth 20000 in
theorem ggL_law_L_known_c27 : GoodIn wsL_law wsX30 := goodIn_r _ [624, 625, 626, 627, 628, 629, 630, 631, 632] (by decide +kernel) (by decide +kernel)
set_option maxRecDepth 20000 in
theorem ggL_law_L_known_c28 : GoodIn wsL_law wsX10 := goodIn_r _ [633, 634, 635, 636] (by decide +kernel) (by decide +kernel)
set_option maxRecDepth 20000 in
theorem ggL_law_L_known_c29 : GoodIn wsL_law wsX50 := goodIn_r _ [637, 638, 639, 640, 641, 642, 643] (by decide +kernel) (by decide +kernel)
set_option maxRecDepth 20000 in
theorem ggL_law_L_known_c30 : GoodIn wsL_law wsX20 := goodIn_r _ [644, 645, 646] (by decide +kernel) (by decide +kernel)
theorem ggL_law_L_known : GoodIn wsL_law wsL_known := by
  intro w h
  rcases List.mem_cons.mp h with h | h
  · exact ggL_law_L_known_c0 w (List.mem_singleton.mpr h)
  rcases List.mem_append.mp h with h | h
  case inr => exact ggL_law_L_known_c30 w h
  rcases List.mem_append.mp h with h | h
  case inr => exact ggL_law_L_known_c29 w h
  rcases List.mem_append.mp h with h | h
  case inr => exact ggL_law_L_known_c28 w h
  rcases List.mem_append.mp h with h | h
  case inr => exact ggL_law_L_known_c27 w h
  rcases List.mem_append.mp h with h | h
  case inr => exact ggL_law_L_known_c26 w h
  rcases List.mem_append.mp h with h | h
  case inr => exact ggL_law_L_known_c25 w h
  rcases List.mem_append.mp h with h | h
  case inr => exact ggL_law_L_known_c24 w h
  rcases List.mem_append.mp h with h | h
  · exact ggL_law_L_known_c1 w h
  rcases List.mem_append.mp h with h | h
  · exact ggL_law_L_known_c2 w h
  rcases List.mem_append.mp h with h | h
  · exact ggL_law_L_known_c3 w h
  rcases List.mem_append.mp h with h | h
  · exact ggL_law_L_known_c4 w h
  rcases List.mem_append.mp h with h | h
  · exact ggL_law_L_known_c5 w h
  rcases List.mem_append.mp h with h | h
  · exact ggL_law_L_known_c6 w h
  rcases List.mem_append.mp h with h | h
  · exact ggL_law_L_known_c7 w h
  rcases List.mem_append.mp h with h | h
  · exact ggL_law_L_known_c8 w h
  rcases List.mem_append.mp h with h | h
  · exact ggL_law_L_known_c9 w h
  rcases List.mem_append.mp h with h | h
  · exact ggL_law_L_known_c10 w h
  rcases List.mem_append.mp h with h | h
  · exact ggL_law_L_known_c11 w h
  rcases List.mem_append.mp h with h | h
  · exact ggL_law_L_known_c12 w h
  rcases List.mem_append.mp h with h | h
  · exact ggL_law_L_known_c13 w h
  rcases List.mem_append.mp h with h | h
  · exact ggL_law_L_known_c14 w h
  rcases List.mem_append.mp h with h | h
  · exact ggL_law_L_known_c15 w h
  rcases List.mem_append.mp h with h | h
  · exact ggL_law_L_known_c16 w h
  rcases List.mem_append.mp h with h | h
  · exact ggL_law_L_known_c17 w h
  rcases List.mem_append.mp h with h | h
  · exact ggL_law_L_known_c18 w h
  rcases List.mem_append.mp h with h | h
  · exact ggL_law_L_known_c19 w h
  rcases List.mem_append.mp h with h | h
  · exact ggL_law_L_known_c20 w h
  rcases List.mem_append.mp h with h | h
  · exact ggL_law_L_known_c21 w h
  rcases List.mem_append.mp h with h | h
  · exact ggL_law_L_known_c22 w h
  exact ggL_law_L_known_c23 w h
set_option maxRecDepth 20000 in
theorem gL_law_L_known : GoodIn wsL_law (va_wsS RL 200 yL_known wsL_known) := goodIn_app (goodIn_of _ (by decide +kernel)) ggL_law_L_known
set_option maxRecDepth 20000 in
theorem ggL_law_X6_init_c0 : GoodIn wsL_law [.code yX6_init cX6_init 1 none] := goodIn_r _ [42] (by decide +kernel) (by decide +kernel)
set_option maxRecDepth 20000 in
theorem ggL_law_X6_init_c1 : GoodIn wsL_law wsX6_init_r1 := goodIn_r _ [43, 44, 45, 46, 47, 48, 49, 50, 51, 52, 53, 54, 55, 56, 57, 58, 59, 60, 61, 62, 63, 64, 65, 66] (by decide +kernel) (by decide +kernel)
set_option maxRecDepth 20000 in
theorem ggL_law_X6_init_c2 : GoodIn wsL_law wsX6_init_r2 := goodIn_r _ [67, 68, 69, 70, 71, 72, 73, 74, 75, 76, 77, 78, 79, 80, 81, 82, 83, 84, 85, 86, 87, 88, 89, 90] (by decide +kernel) (by decide +kernel)
set_option maxRecDepth 20000 in
theorem ggL_law_X6_init_c3 : GoodIn wsL_law wsX6_init_r3 := goodIn_r _ [91, 92, 93, 94, 95, 96, 97, 98, 99, 100, 101, 102, 103, 104, 105, 106, 107, 108, 109] (by decide +kernel) (by decide +kernel)
set_option maxRecDepth 20000 in
theorem ggL_law_X6_init_c4 : GoodIn wsL_law wsX40 := goodIn_r _ [615, 616, 617, 618, 619, 620] (by decide +kernel) (by decide +kernel)
set_option maxRecDepth 20000 in
theorem ggL_law_X6_init_c5 : GoodIn wsL_law wsX60 := goodIn_r _ [612, 613, 614] (by decide +kernel) (by decide +kernel)
set_option maxRecDepth 20000 in
theorem ggL_law_X6_init_c6 : GoodIn wsL_law wsX00 := goodIn_r _ [621, 622, 623] (by decide +kernel) (by decide +kernel)
set_option maxRecDepth 20000 in
theorem ggL_law_X6_init_c7 : GoodIn wsL_law wsX30 := goodIn_r _ [624, 625, 626, 627, 628, 629, 630, 631, 632] (by decide +kernel) (by decide +kernel)
set_option maxRecDepth 20000 in
theorem ggL_law_X6_init_c8 : GoodIn wsL_law wsX10 := goodIn_r _ [633, 634, 635, 636] (by decide +kernel) (by decide +kernel)
set_option maxRecDepth 20000 in
theorem ggL_law_X6_init_c9 : GoodIn wsL_law wsX50 := goodIn_r _ [637, 638, 639, 640, 641, 642, 643] (by decide +kernel) (by decide +kernel)
set_option maxRecDepth 20000 in
theorem ggL_law_X6_init_c10 : GoodIn wsL_law wsX20 := goodIn_r _ [644, 645, 646] (by decide +kernel) (by decide +kernel)
theorem ggL_law_X6_init : GoodIn wsL_law wsX6_init := by
  intro w h
  rcases List.mem_cons.mp h with h | h
  · exact ggL_law_X6_init_c0 w (List.mem_singleton.mpr h)
  rcases List.mem_append.mp h with h | h
  case inr => exact ggL_law_X6_init_c10 w h
  rcases List.mem_append.mp h with h | h
  case inr => exact ggL_law_X6_init_c9 w h
  rcases List.mem_append.mp h with h | h
  case inr => exact ggL_law_X6_init_c8 w h
  rcases List.mem_append.mp h with h | h
  case inr => exact ggL_law_X6_init_c7 w h
  rcases List.mem_append.mp h with h | h
  case inr => exact ggL_law_X6_init_c6 w h
  rcases List.mem_append.mp h with h | h
  case inr => exact ggL_law_X6_init_c5 w h
  rcases List.mem_append.mp h with h | h
  case inr => exact ggL_law_X6_init_c4 w h
  rcases List.mem_append.mp h with h | h
  · exact ggL_law_X6_init_c1 w h
  rcases List.mem_append.mp h with h | h
  · exact ggL_law_X6_init_c2 w h
  exact ggL_law_X6_init_c3 w h
set_option maxRecDepth 20000 in
theorem gL_law_X6_init : GoodIn wsL_law (wsX6_init) := ggL_law_X6_init
