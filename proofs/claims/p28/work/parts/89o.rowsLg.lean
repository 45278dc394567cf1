set_option maxRecDepth 20000 in
theorem ggL_law_L_refused_c0 : GoodIn wsL_law [.code yL_refused cL_refused 6 (some .boolean)] := fun w h => by
  obtain rfl := List.mem_singleton.mp h
  exact ⟨List.mem_of_getElem? (i := 475) rfl, good_of_word (by decide +kernel)⟩
set_option maxRecDepth 20000 in
theorem ggL_law_L_refused_c1 : GoodIn wsL_law wsL_refused_r1 := goodIn_r _ [476, 477, 478, 479, 7, 480, 481, 319, 320, 321, 2, 322, 49, 114, 115, 218, 323, 324, 325, 326, 327, 53, 328, 57] (by decide +kernel) (by decide +kernel)
set_option maxRecDepth 20000 in
theorem ggL_law_L_refused_c2 : GoodIn wsL_law wsL_refused_r2 := goodIn_r _ [329, 330, 331, 332, 48, 333, 334, 335, 336, 337, 338, 339, 340, 341, 68, 313, 290, 291, 67, 292, 94, 342, 343, 344] (by decide +kernel) (by decide +kernel)
set_option maxRecDepth 20000 in
theorem ggL_law_L_refused_c3 : GoodIn wsL_law wsL_refused_r3 := goodIn_r _ [345, 74, 346, 347, 348, 349, 350, 351, 352, 353, 354, 355, 356, 357, 358, 359, 360, 92, 89, 361, 362, 363, 364, 91] (by decide +kernel) (by decide +kernel)
set_option maxRecDepth 20000 in
theorem ggL_law_L_refused_c4 : GoodIn wsL_law wsL_refused_r4 := goodIn_r _ [482, 483, 484, 485, 426, 427, 428, 429, 430, 129, 130, 63, 131, 123, 117, 118, 431, 125, 126, 127, 78, 128, 432, 190] (by decide +kernel) (by decide +kernel)
set_option maxRecDepth 20000 in
theorem ggL_law_L_refused_c5 : GoodIn wsL_law wsL_refused_r5 := goodIn_r _ [191, 192, 79, 433, 434, 435, 436, 80, 437, 438, 439, 440, 441, 442, 443, 444, 445, 446, 447, 448, 186, 187, 188, 189] (by decide +kernel) (by decide +kernel)
set_option maxRecDepth 20000 in
theorem ggL_law_L_refused_c6 : GoodIn wsL_law wsL_refused_r6 := goodIn_r _ [124, 193, 194, 195, 196, 197, 198, 199, 200, 409, 410, 411, 412, 413, 414, 415, 416, 417, 418, 253, 254, 116, 419, 420] (by decide +kernel) (by decide +kernel)
set_option maxRecDepth 20000 in
theorem ggL_law_L_refused_c7 : GoodIn wsL_law wsL_refused_r7 := goodIn_r _ [283, 284, 285, 93, 421, 422, 423, 424, 425, 289, 486, 487, 488, 489, 490, 491, 492, 493, 494, 495, 496, 497, 88, 282] (by decide +kernel) (by decide +kernel)
set_option maxRecDepth 20000 in
theorem ggL_law_L_refused_c8 : GoodIn wsL_law wsL_refused_r8 := goodIn_r _ [498, 499, 500, 501, 502, 503, 389, 390, 391, 392, 393, 394, 395, 71, 396, 397, 398, 399, 400, 166, 98, 401, 402, 403] (by decide +kernel) (by decide +kernel)
set_option maxRecDepth 20000 in
theorem ggL_law_L_refused_c9 : GoodIn wsL_law wsL_refused_r9 := goodIn_r _ [404, 405, 406, 407, 408, 99, 504, 505, 506, 507, 508, 509, 510, 511, 512, 132, 133, 134, 52, 135, 136, 137, 138, 139] (by decide +kernel) (by decide +kernel)
set_option maxRecDepth 20000 in
theorem ggL_law_L_refused_c10 : GoodIn wsL_law wsL_refused_r10 := goodIn_r _ [140, 141, 104, 142, 143, 144, 145, 64, 72, 146, 147, 148, 149, 150, 151, 152, 153, 154, 155, 156, 157, 158, 159, 160] (by decide +kernel) (by decide +kernel)
set_option maxRecDepth 20000 in
theorem ggL_law_L_refused_c11 : GoodIn wsL_law wsL_refused_r11 := goodIn_r _ [161, 90, 162, 163, 164, 165, 167, 513, 514, 515, 516, 517, 518, 519, 520, 260, 261, 262, 263, 184, 180, 181, 182, 183] (by decide +kernel) (by decide +kernel)
set_option maxRecDepth 20000 in
theorem ggL_law_L_refused_c12 : GoodIn wsL_law wsL_refused_r12 := goodIn_r _ [185, 201, 202, 203, 204, 205, 206, 207, 208, 209, 210, 211, 212, 213, 521, 522, 523, 524, 525, 526, 527, 528, 529, 530] (by decide +kernel) (by decide +kernel)
set_option maxRecDepth 20000 in
theorem ggL_law_L_refused_c13 : GoodIn wsL_law wsL_refused_r13 := goodIn_r _ [531, 532, 264, 265, 266, 267, 268, 269, 270, 271, 272, 273, 84, 274, 275, 276, 277, 278, 279, 280, 281, 286, 287, 288] (by decide +kernel) (by decide +kernel)
set_option maxRecDepth 20000 in
theorem ggL_law_L_refused_c14 : GoodIn wsL_law wsL_refused_r14 := goodIn_r _ [293, 294, 295, 296, 297, 298, 299, 300, 301, 302, 303, 304, 533, 534, 535, 536, 537, 538, 539, 540, 541, 542, 543, 544] (by decide +kernel) (by decide +kernel)
set_option maxRecDepth 20000 in
theorem ggL_law_L_refused_c15 : GoodIn wsL_law wsL_refused_r15 := goodIn_r _ [545, 546, 547, 548, 549, 550, 551, 552, 553, 554, 555, 556, 557, 558, 559, 309, 310, 311, 312, 314, 315, 316, 317, 560] (by decide +kernel) (by decide +kernel)
set_option maxRecDepth 20000 in
theorem ggL_law_L_refused_c16 : GoodIn wsL_law wsL_refused_r16 := goodIn_r _ [561, 562, 563, 564, 565, 566, 567, 568, 569, 570, 571, 572, 573, 574, 575, 576, 577, 578, 579, 580, 110, 111, 112, 113] (by decide +kernel) (by decide +kernel)
set_option maxRecDepth 20000 in
theorem ggL_law_L_refused_c17 : GoodIn wsL_law wsL_refused_r17 := goodIn_r _ [119, 120, 121, 122, 168, 169, 170, 171, 172, 173, 174, 175, 176, 177, 178, 179, 581, 582, 583, 584, 585, 586, 587, 588] (by decide +kernel) (by decide +kernel)
set_option maxRecDepth 20000 in
theorem ggL_law_L_refused_c18 : GoodIn wsL_law wsL_refused_r18 := goodIn_r _ [589, 590, 591, 592, 593, 594, 595, 596, 597, 598, 599, 600, 601, 602, 603, 457, 458, 459, 460, 461, 305, 306, 307, 308] (by decide +kernel) (by decide +kernel)
set_option maxRecDepth 20000 in
theorem ggL_law_L_refused_c19 : GoodIn wsL_law wsL_refused_r19 := goodIn_r _ [318, 376, 377, 378, 379, 380, 381, 382, 56, 383, 228, 109, 384, 385, 386, 387, 388, 224, 225, 226, 227, 229, 230, 231] (by decide +kernel) (by decide +kernel)
set_option maxRecDepth 20000 in
theorem ggL_law_L_refused_c20 : GoodIn wsL_law wsL_refused_r20 := goodIn_r _ [232, 233, 234, 235, 236, 237, 238, 239, 240, 241, 242, 243, 244, 245, 246, 247, 248, 249, 250, 251, 252, 255, 256, 257] (by decide +kernel) (by decide +kernel)
set_option maxRecDepth 20000 in
theorem ggL_law_L_refused_c21 : GoodIn wsL_law wsL_refused_r21 := goodIn_r _ [258] (by decide +kernel) (by decide +kernel)
set_option maxRecDepth 20000 in
theorem ggL_law_L_refused_c22 : GoodIn wsL_law wsX60 := goodIn_r _ [612, 613, 614] (by decide +kernel) (by decide +kernel)
set_option maxRecDepth 20000 in
theorem ggL_law_L_refused_c23 : GoodIn wsL_law wsX40 := goodIn_r _ [615, 616, 617, 618, 619, 620] (by decide +kernel) (by decide +kernel)
set_option maxRecDepth 20000 in
theorem ggL_law_L_refused_c24 : GoodIn wsL_law wsX10 := goodIn_r _ [633, 634, 635, 636] (by decide +kernel) (by decide +kernel)
set_option maxRecDepth 20000 in
theorem ggL_law_L_refused_c25 : GoodIn wsL_law wsX20 := goodIn_r _ [644, 645, 646] (by decide +kernel) (by decide +kernel)
set_option maxRecDepth 20000 in
theorem ggL_law_L_refused_c26 : GoodIn wsL_law wsX00 := goodIn_r _ [621, 622, 623] (by decide +kernel) (by decide +kernel)
set_option maxRecDepth 20000 in
theorem ggL_law_L_refused_c27 : GoodIn wsL_law wsX30 := goodIn_r _ [624, 625, 626, 627, 628, 629, 630, 631, 632] (by decide +kernel) (by decide +kernel)
set_option maxRecDepth 20000 in
theorem ggL_law_L_refused_c28 : GoodIn wsL_law wsX50 := goodIn_r _ [637, 638, 639, 640, 641, 642, 643] (by decide +kernel) (by decide +kernel)
theorem ggL_law_L_refused : GoodIn wsL_law wsL_refused := by
  intro w h
  rcases List.mem_cons.mp h with h | h
  · exact ggL_law_L_refused_c0 w (List.mem_singleton.mpr h)
  rcases List.mem_append.mp h with h | h
  case inr => exact ggL_law_L_refused_c28 w h
  rcases List.mem_append.mp h with h | h
  case inr => exact ggL_law_L_refused_c27 w h
  rcases List.mem_append.mp h with h | h
  case inr => exact ggL_law_L_refused_c26 w h
  rcases List.mem_append.mp h with h | h
  case inr => exact ggL_law_L_refused_c25 w h
  rcases List.mem_append.mp h with h | h
  case inr => exact ggL_law_L_refused_c24 w h
  rcases List.mem_append.mp h with h | h
  case inr => exact ggL_law_L_refused_c23 w h
  rcases List.mem_append.mp h with h | h
  case inr => exact ggL_law_L_refused_c22 w h
  rcases List.mem_append.mp h with h | h
  · exact ggL_law_L_refused_c1 w h
  rcases List.mem_append.mp h with h | h
  · exact ggL_law_L_refused_c2 w h
  rcases List.mem_append.mp h with h | h
  · exact ggL_law_L_refused_c3 w h
  rcases List.mem_append.mp h with h | h
  · exact ggL_law_L_refused_c4 w h
  rcases List.mem_append.mp h with h | h
  · exact ggL_law_L_refused_c5 w h
  rcases List.mem_append.mp h with h | h
  · exact ggL_law_L_refused_c6 w h
  rcases List.mem_append.mp h with h | h
  · exact ggL_law_L_refused_c7 w h
  rcases List.mem_append.mp h with h | h
  · exact ggL_law_L_refused_c8 w h
  rcases List.mem_append.mp h with h | h
  · exact ggL_law_L_refused_c9 w h
  rcases List.mem_append.mp h with h | h
  · exact ggL_law_L_refused_c10 w h
  rcases List.mem_append.mp h with h | h
  · exact ggL_law_L_refused_c11 w h
  rcases List.mem_append.mp h with h | h
  · exact ggL_law_L_refused_c12 w h
  rcases List.mem_append.mp h with h | h
  · exact ggL_law_L_refused_c13 w h
  rcases List.mem_append.mp h with h | h
  · exact ggL_law_L_refused_c14 w h
  rcases List.mem_append.mp h with h | h
  · exact ggL_law_L_refused_c15 w h
  rcases List.mem_append.mp h with h | h
  · exact ggL_law_L_refused_c16 w h
  rcases List.mem_append.mp h with h | h
  · exact ggL_law_L_refused_c17 w h
  rcases List.mem_append.mp h with h | h
  · exact ggL_law_L_refused_c18 w h
  rcases List.mem_append.mp h with h | h
  · exact ggL_law_L_refused_c19 w h
  rcases List.mem_append.mp h with h | h
  · exact ggL_law_L_refused_c20 w h
  exact ggL_law_L_refused_c21 w h
set_option maxRecDepth 20000 in
theorem gL_law_L_refused : GoodIn wsL_law (va_wsS RL 185 yL_refused wsL_refused) := goodIn_app (goodIn_of _ (by decide +kernel)) ggL_law_L_refused
