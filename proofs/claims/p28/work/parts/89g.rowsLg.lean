set_option maxRecDepth 20000 in
theorem ggL_texts_X6_played : GoodIn wsL_texts wsX6_played := goodIn_r _ [388, 44, 319, 320, 111, 112, 3, 113, 389, 390, 391, 66, 392, 393, 394, 395, 396, 161, 93, 397, 398, 399, 400, 401, 402, 403, 404, 94, 458, 459, 460, 461, 462, 463, 464, 465, 466, 490, 491, 492] (by decide +kernel) (by decide +kernel)
set_option maxRecDepth 20000 in
theorem gL_texts_X6_played : GoodIn wsL_texts (wsV RL 36 RX6 yX6_played wsX6_played) := goodIn_app (goodIn_of _ (by decide +kernel)) ggL_texts_X6_played
set_option maxRecDepth 20000 in
theorem ggL_texts_X6_stringInfo_c0 : GoodIn wsL_texts [.code yX6_stringInfo cX6_stringInfo 3 (some .int)] := goodIn_r _ [408] (by decide +kernel) (by decide +kernel)
set_option maxRecDepth 20000 in
theorem ggL_texts_X6_stringInfo_c1 : GoodIn wsL_texts wsX6_stringInfo_r1 := goodIn_r _ [44, 318, 409, 410, 411, 412, 413, 414, 248, 3, 249, 111, 112, 113, 415, 353, 354, 62, 355, 87, 84, 416, 278, 279] (by decide +kernel) (by decide +kernel)
set_option maxRecDepth 20000 in
theorem ggL_texts_X6_stringInfo_c2 : GoodIn wsL_texts wsX6_stringInfo_r2 := goodIn_r _ [280, 88, 417, 334, 335, 43, 336, 63, 308, 285, 286, 287, 89, 337, 338, 339, 340, 69, 418, 419, 420, 421, 284] (by decide +kernel) (by decide +kernel)
set_option maxRecDepth 20000 in
theorem ggL_texts_X6_stringInfo_c3 : GoodIn wsL_texts wsX60 := goodIn_r _ [458, 459, 460] (by decide +kernel) (by decide +kernel)
set_option maxRecDepth 20000 in
theorem ggL_texts_X6_stringInfo_c4 : GoodIn wsL_texts wsX40 := goodIn_r _ [461, 462, 463, 464, 465, 466] (by decide +kernel) (by decide +kernel)
set_option maxRecDepth 20000 in
theorem ggL_texts_X6_stringInfo_c5 : GoodIn wsL_texts wsX50 := goodIn_r _ [483, 484, 485, 486, 487, 488, 489] (by decide +kernel) (by decide +kernel)
theorem ggL_texts_X6_stringInfo : GoodIn wsL_texts wsX6_stringInfo := by
  intro w h
  rcases List.mem_cons.mp h with h | h
  · exact ggL_texts_X6_stringInfo_c0 w (List.mem_singleton.mpr h)
  rcases List.mem_append.mp h with h | h
  case inr => exact ggL_texts_X6_stringInfo_c5 w h
  rcases List.mem_append.mp h with h | h
  case inr => exact ggL_texts_X6_stringInfo_c4 w h
  rcases List.mem_append.mp h with h | h
  case inr => exact ggL_texts_X6_stringInfo_c3 w h
  rcases List.mem_append.mp h with h | h
  · exact ggL_texts_X6_stringInfo_c1 w h
  exact ggL_texts_X6_stringInfo_c2 w h
set_option maxRecDepth 20000 in
theorem gL_texts_X6_stringInfo : GoodIn wsL_texts (wsV RL 29 RX6 yX6_stringInfo wsX6_stringInfo) := goodIn_app (goodIn_of _ (by decide +kernel)) ggL_texts_X6_stringInfo
set_option maxRecDepth 20000 in
theorem ggL_texts_X6_fretInfo_c0 : GoodIn wsL_texts [.code yX6_fretInfo cX6_fretInfo 3 (some .int)] := goodIn_r _ [425] (by decide +kernel) (by decide +kernel)
set_option maxRecDepth 20000 in
theorem ggL_texts_X6_fretInfo_c1 : GoodIn wsL_texts wsX6_fretInfo_r1 := goodIn_r _ [44, 109, 318, 426, 124, 125, 58, 126, 118, 112, 3, 113, 427, 120, 121, 122, 73, 123, 428, 185, 186, 187, 74, 429] (by decide +kernel) (by decide +kernel)
set_option maxRecDepth 20000 in
theorem ggL_texts_X6_fretInfo_c2 : GoodIn wsL_texts wsX6_fretInfo_r2 := goodIn_r _ [430, 431, 432, 75, 433, 434, 435, 62, 436, 84, 437, 438, 439, 440, 441, 442, 443, 87, 444, 181, 182, 183, 184, 119] (by decide +kernel) (by decide +kernel)
set_option maxRecDepth 20000 in
theorem ggL_texts_X6_fretInfo_c3 : GoodIn wsL_texts wsX6_fretInfo_r3 := goodIn_r _ [188, 189, 190, 191, 192, 193, 194, 195] (by decide +kernel) (by decide +kernel)
set_option maxRecDepth 20000 in
theorem ggL_texts_X6_fretInfo_c4 : GoodIn wsL_texts wsX60 := goodIn_r _ [458, 459, 460] (by decide +kernel) (by decide +kernel)
set_option maxRecDepth 20000 in
theorem ggL_texts_X6_fretInfo_c5 : GoodIn wsL_texts wsX40 := goodIn_r _ [461, 462, 463, 464, 465, 466] (by decide +kernel) (by decide +kernel)
set_option maxRecDepth 20000 in
theorem ggL_texts_X6_fretInfo_c6 : GoodIn wsL_texts wsX10 := goodIn_r _ [479, 480, 481, 482] (by decide +kernel) (by decide +kernel)
set_option maxRecDepth 20000 in
theorem ggL_texts_X6_fretInfo_c7 : GoodIn wsL_texts wsX50 := goodIn_r _ [483, 484, 485, 486, 487, 488, 489] (by decide +kernel) (by decide +kernel)
theorem ggL_texts_X6_fretInfo : GoodIn wsL_texts wsX6_fretInfo := by
  intro w h
  rcases List.mem_cons.mp h with h | h
  · exact ggL_texts_X6_fretInfo_c0 w (List.mem_singleton.mpr h)
  rcases List.mem_append.mp h with h | h
  case inr => exact ggL_texts_X6_fretInfo_c7 w h
  rcases List.mem_append.mp h with h | h
  case inr => exact ggL_texts_X6_fretInfo_c6 w h
  rcases List.mem_append.mp h with h | h
  case inr => exact ggL_texts_X6_fretInfo_c5 w h
  rcases List.mem_append.mp h with h | h
  case inr => exact ggL_texts_X6_fretInfo_c4 w h
  rcases List.mem_append.mp h with h | h
  · exact ggL_texts_X6_fretInfo_c1 w h
  rcases List.mem_append.mp h with h | h
  · exact ggL_texts_X6_fretInfo_c2 w h
  exact ggL_texts_X6_fretInfo_c3 w h
set_option maxRecDepth 20000 in
theorem gL_texts_X6_fretInfo : GoodIn wsL_texts (wsV RL 25 RX6 yX6_fretInfo wsX6_fretInfo) := goodIn_app (goodIn_of _ (by decide +kernel)) ggL_texts_X6_fretInfo
set_option maxRecDepth 20000 in
theorem ggL_texts_X6_undo_c0 : GoodIn wsL_texts [.code yX6_undo cX6_undo 1 (some .int)] := goodIn_r _ [448] (by decide +kernel) (by decide +kernel)
set_option maxRecDepth 20000 in
theorem ggL_texts_X6_undo_c1 : GoodIn wsL_texts wsX6_undo_r1 := goodIn_r _ [48, 323, 44, 449, 450, 451, 47, 452, 131, 133, 134, 135, 136, 132, 99, 137, 138, 139, 43, 140, 59, 63, 67, 69] (by decide +kernel) (by decide +kernel)
set_option maxRecDepth 20000 in
theorem ggL_texts_X6_undo_c2 : GoodIn wsL_texts wsX6_undo_r2 := goodIn_r _ [141, 142, 143, 144, 145, 146, 147, 148, 149, 58, 150, 118, 73, 151, 74, 75, 152, 153, 154, 62, 155, 83, 156, 84] (by decide +kernel) (by decide +kernel)
set_option maxRecDepth 20000 in
theorem ggL_texts_X6_undo_c3 : GoodIn wsL_texts wsX6_undo_r3 := goodIn_r _ [85, 86, 87, 88, 89, 157, 158, 159, 66, 160, 161, 93, 162, 94] (by decide +kernel) (by decide +kernel)
set_option maxRecDepth 20000 in
theorem ggL_texts_X6_undo_c4 : GoodIn wsL_texts wsX60 := goodIn_r _ [458, 459, 460] (by decide +kernel) (by decide +kernel)
set_option maxRecDepth 20000 in
theorem ggL_texts_X6_undo_c5 : GoodIn wsL_texts wsX00 := goodIn_r _ [467, 468, 469] (by decide +kernel) (by decide +kernel)
set_option maxRecDepth 20000 in
theorem ggL_texts_X6_undo_c6 : GoodIn wsL_texts wsX40 := goodIn_r _ [461, 462, 463, 464, 465, 466] (by decide +kernel) (by decide +kernel)
set_option maxRecDepth 20000 in
theorem ggL_texts_X6_undo_c7 : GoodIn wsL_texts wsX10 := goodIn_r _ [479, 480, 481, 482] (by decide +kernel) (by decide +kernel)
set_option maxRecDepth 20000 in
theorem ggL_texts_X6_undo_c8 : GoodIn wsL_texts wsX50 := goodIn_r _ [483, 484, 485, 486, 487, 488, 489] (by decide +kernel) (by decide +kernel)
set_option maxRecDepth 20000 in
theorem ggL_texts_X6_undo_c9 : GoodIn wsL_texts wsX20 := goodIn_r _ [490, 491, 492] (by decide +kernel) (by decide +kernel)
theorem ggL_texts_X6_undo : GoodIn wsL_texts wsX6_undo := by
  intro w h
  rcases List.mem_cons.mp h with h | h
  · exact ggL_texts_X6_undo_c0 w (List.mem_singleton.mpr h)
  rcases List.mem_append.mp h with h | h
  case inr => exact ggL_texts_X6_undo_c9 w h
  rcases List.mem_append.mp h with h | h
  case inr => exact ggL_texts_X6_undo_c8 w h
  rcases List.mem_append.mp h with h | h
  case inr => exact ggL_texts_X6_undo_c7 w h
  rcases List.mem_append.mp h with h | h
  case inr => exact ggL_texts_X6_undo_c6 w h
  rcases List.mem_append.mp h with h | h
  case inr => exact ggL_texts_X6_undo_c5 w h
  rcases List.mem_append.mp h with h | h
  case inr => exact ggL_texts_X6_undo_c4 w h
  rcases List.mem_append.mp h with h | h
  · exact ggL_texts_X6_undo_c1 w h
  rcases List.mem_append.mp h with h | h
  · exact ggL_texts_X6_undo_c2 w h
  exact ggL_texts_X6_undo_c3 w h
set_option maxRecDepth 20000 in
theorem gL_texts_X6_undo : GoodIn wsL_texts (wsV RL 180 RX6 yX6_undo wsX6_undo) := goodIn_app (goodIn_of _ (by decide +kernel)) ggL_texts_X6_undo
set_option maxRecDepth 20000 in
theorem ggL_texts_X6_clearText : GoodIn wsL_texts wsX6_clearText := goodIn_r _ [367, 52, 324, 458, 459, 460, 470, 471, 472, 473, 474, 475, 476, 477, 478] (by decide +kernel) (by decide +kernel)
set_option maxRecDepth 20000 in
theorem gL_texts_X6_clearText : GoodIn wsL_texts (wsV RL 104 RX6 yX6_clearText wsX6_clearText) := goodIn_app (goodIn_of _ (by decide +kernel)) ggL_texts_X6_clearText
set_option maxRecDepth 20000 in
theorem ggL_texts_X6_run_c0 : GoodIn wsL_texts [.code yX6_run cX6_run 2 (some .int)] := goodIn_r _ [456] (by decide +kernel) (by decide +kernel)
set_option maxRecDepth 20000 in
theorem ggL_texts_X6_run_c1 : GoodIn wsL_texts wsX6_run_r1 := goodIn_r _ [44, 213, 457, 48, 111, 112, 3, 113, 127, 128, 129, 47, 130, 131, 132, 133, 134, 135, 136, 99, 137, 138, 139, 43] (by decide +kernel) (by decide +kernel)
set_option maxRecDepth 20000 in
theorem ggL_texts_X6_run_c2 : GoodIn wsL_texts wsX6_run_r2 := goodIn_r _ [140, 59, 63, 67, 69, 141, 142, 143, 144, 145, 146, 147, 148, 149, 58, 150, 118, 73, 151, 74, 75, 152, 153, 154] (by decide +kernel) (by decide +kernel)
set_option maxRecDepth 20000 in
theorem ggL_texts_X6_run_c3 : GoodIn wsL_texts wsX6_run_r3 := goodIn_r _ [62, 155, 83, 156, 84, 85, 86, 87, 88, 89, 157, 158, 159, 66, 160, 161, 93, 162, 94, 300, 301, 302, 303, 304] (by decide +kernel) (by decide +kernel)
set_option maxRecDepth 20000 in
theorem ggL_texts_X6_run_c4 : GoodIn wsL_texts wsX6_run_r4 := goodIn_r _ [305, 306, 307, 273, 274, 275, 276, 269, 270, 271, 272, 277, 278, 279, 280, 281, 282, 194, 283, 308, 285, 286, 287, 309] (by decide +kernel) (by decide +kernel)
set_option maxRecDepth 20000 in
theorem ggL_texts_X6_run_c5 : GoodIn wsL_texts wsX6_run_r5 := goodIn_r _ [310, 311, 312, 313, 206, 207, 208, 325, 326, 327, 328, 329, 330, 331, 332, 333, 334, 335, 336, 337, 338, 339, 340, 341] (by decide +kernel) (by decide +kernel)
set_option maxRecDepth 20000 in
theorem ggL_texts_X6_run_c6 : GoodIn wsL_texts wsX6_run_r6 := goodIn_r _ [342, 343, 344, 345, 346, 347] (by decide +kernel) (by decide +kernel)
set_option maxRecDepth 20000 in
theorem ggL_texts_X6_run_c7 : GoodIn wsL_texts wsX60 := goodIn_r _ [458, 459, 460] (by decide +kernel) (by decide +kernel)
set_option maxRecDepth 20000 in
theorem ggL_texts_X6_run_c8 : GoodIn wsL_texts wsX40 := goodIn_r _ [461, 462, 463, 464, 465, 466] (by decide +kernel) (by decide +kernel)
set_option maxRecDepth 20000 in
theorem ggL_texts_X6_run_c9 : GoodIn wsL_texts wsX00 := goodIn_r _ [467, 468, 469] (by decide +kernel) (by decide +kernel)
set_option maxRecDepth 20000 in
theorem ggL_texts_X6_run_c10 : GoodIn wsL_texts wsX10 := goodIn_r _ [479, 480, 481, 482] (by decide +kernel) (by decide +kernel)
set_option maxRecDepth 20000 in
theorem ggL_texts_X6_run_c11 : GoodIn wsL_texts wsX50 := goodIn_r _ [483, 484, 485, 486, 487, 488, 489] (by decide +kernel) (by decide +kernel)
set_option maxRecDepth 20000 in
theorem ggL_texts_X6_run_c12 : GoodIn wsL_texts wsX20 := goodIn_r _ [490, 491, 492] (by decide +kernel) (by decide +kernel)
theorem ggL_texts_X6_run : GoodIn wsL_texts wsX6_run := by
  intro w h
  rcases List.mem_cons.mp h with h | h
  · exact ggL_texts_X6_run_c0 w (List.mem_singleton.mpr h)
  rcases List.mem_append.mp h with h | h
  case inr => exact ggL_texts_X6_run_c12 w h
  rcases List.mem_append.mp h with h | h
  case inr => exact ggL_texts_X6_run_c11 w h
  rcases List.mem_append.mp h with h | h
  case inr => exact ggL_texts_X6_run_c10 w h
  rcases List.mem_append.mp h with h | h
  case inr => exact ggL_texts_X6_run_c9 w h
  rcases List.mem_append.mp h with h | h
  case inr => exact ggL_texts_X6_run_c8 w h
  rcases List.mem_append.mp h with h | h
  case inr => exact ggL_texts_X6_run_c7 w h
  rcases List.mem_append.mp h with h | h
  · exact ggL_texts_X6_run_c1 w h
  rcases List.mem_append.mp h with h | h
  · exact ggL_texts_X6_run_c2 w h
  rcases List.mem_append.mp h with h | h
  · exact ggL_texts_X6_run_c3 w h
  rcases List.mem_append.mp h with h | h
  · exact ggL_texts_X6_run_c4 w h
  rcases List.mem_append.mp h with h | h
  · exact ggL_texts_X6_run_c5 w h
  exact ggL_texts_X6_run_c6 w h
set_option maxRecDepth 20000 in
theorem gL_texts_X6_run : GoodIn wsL_texts (wsV RL 93 RX6 yX6_run wsX6_run) := goodIn_app (goodIn_of _ (by decide +kernel)) ggL_texts_X6_run
set_option maxRecDepth 20000 in
theorem ggL_texts_X6_type : GoodIn wsL_texts wsX6_type := goodIn_r _ [375, 52, 324, 111, 112, 3, 113, 376, 377, 378, 51, 379, 223, 104, 458, 459, 460, 470, 471, 472, 473, 474, 475, 476, 477, 478] (by decide +kernel) (by decide +kernel)
set_option maxRecDepth 20000 in
theorem gL_texts_X6_type : GoodIn wsL_texts (wsV RL 96 RX6 yX6_type wsX6_type) := goodIn_app (goodIn_of _ (by decide +kernel)) ggL_texts_X6_type
set_option maxRecDepth 20000 in
theorem ggL_texts_X6_fault_c0 : GoodIn wsL_texts [.code yX6_fault cX6_fault 3 (some .int)] := goodIn_r _ [383] (by decide +kernel) (by decide +kernel)
set_option maxRecDepth 20000 in
theorem ggL_texts_X6_fault_c1 : GoodIn wsL_texts wsX6_fault_r1 := goodIn_r _ [52, 44, 109, 110, 213, 384, 111, 112, 3, 113, 219, 220, 221, 51, 222, 223, 224, 225, 226, 227, 228, 229, 230, 231] (by decide +kernel) (by decide +kernel)
set_option maxRecDepth 20000 in
theorem ggL_texts_X6_fault_c2 : GoodIn wsL_texts wsX6_fault_r2 := goodIn_r _ [232, 233, 234, 235, 236, 237, 238, 239, 240, 241, 242, 243, 244, 245, 246, 247, 104, 248, 249, 250, 251, 252, 253] (by decide +kernel) (by decide +kernel)
set_option maxRecDepth 20000 in
theorem ggL_texts_X6_fault_c3 : GoodIn wsL_texts wsX60 := goodIn_r _ [458, 459, 460] (by decide +kernel) (by decide +kernel)
set_option maxRecDepth 20000 in
theorem ggL_texts_X6_fault_c4 : GoodIn wsL_texts wsX40 := goodIn_r _ [461, 462, 463, 464, 465, 466] (by decide +kernel) (by decide +kernel)
set_option maxRecDepth 20000 in
theorem ggL_texts_X6_fault_c5 : GoodIn wsL_texts wsX10 := goodIn_r _ [479, 480, 481, 482] (by decide +kernel) (by decide +kernel)
set_option maxRecDepth 20000 in
theorem ggL_texts_X6_fault_c6 : GoodIn wsL_texts wsX30 := goodIn_r _ [470, 471, 472, 473, 474, 475, 476, 477, 478] (by decide +kernel) (by decide +kernel)
theorem ggL_texts_X6_fault : GoodIn wsL_texts wsX6_fault := by
  intro w h
  rcases List.mem_cons.mp h with h | h
  · exact ggL_texts_X6_fault_c0 w (List.mem_singleton.mpr h)
  rcases List.mem_append.mp h with h | h
  case inr => exact ggL_texts_X6_fault_c6 w h
  rcases List.mem_append.mp h with h | h
  case inr => exact ggL_texts_X6_fault_c5 w h
  rcases List.mem_append.mp h with h | h
  case inr => exact ggL_texts_X6_fault_c4 w h
  rcases List.mem_append.mp h with h | h
  case inr => exact ggL_texts_X6_fault_c3 w h
  rcases List.mem_append.mp h with h | h
  · exact ggL_texts_X6_fault_c1 w h
  exact ggL_texts_X6_fault_c2 w h
set_option maxRecDepth 20000 in
theorem gL_texts_X6_fault : GoodIn wsL_texts (wsV RL 99 RX6 yX6_fault wsX6_fault) := goodIn_app (goodIn_of _ (by decide +kernel)) ggL_texts_X6_fault
set_option maxRecDepth 20000 in
theorem ggL_known_X6_init_c0 : GoodIn wsL_known [.code yX6_init cX6_init 1 none] := goodIn_r _ [14] (by decide +kernel) (by decide +kernel)
set_option maxRecDepth 20000 in
theorem ggL_known_X6_init_c1 : GoodIn wsL_known wsX6_init_r1 := goodIn_r _ [15, 16, 17, 18, 19, 20, 21, 22, 23, 24, 25, 26, 27, 28, 29, 30, 31, 32, 33, 34, 35, 36, 37, 38] (by decide +kernel) (by decide +kernel)
set_option maxRecDepth 20000 in
theorem ggL_known_X6_init_c2 : GoodIn wsL_known wsX6_init_r2 := goodIn_r _ [39, 40, 41, 42, 43, 44, 45, 46, 47, 48, 49, 50, 51, 52, 53, 54, 55, 56, 57, 58, 59, 60, 61, 62] (by decide +kernel) (by decide +kernel)
set_option maxRecDepth 20000 in
theorem ggL_known_X6_init_c3 : GoodIn wsL_known wsX6_init_r3 := goodIn_r _ [63, 64, 65, 66, 67, 68, 69, 70, 71, 72, 73, 74, 75, 76, 77, 78, 79, 80, 81] (by decide +kernel) (by decide +kernel)
set_option maxRecDepth 20000 in
theorem ggL_known_X6_init_c4 : GoodIn wsL_known wsX40 := goodIn_r _ [548, 549, 550, 551, 552, 553] (by decide +kernel) (by decide +kernel)
set_option maxRecDepth 20000 in
theorem ggL_known_X6_init_c5 : GoodIn wsL_known wsX60 := goodIn_r _ [545, 546, 547] (by decide +kernel) (by decide +kernel)
set_option maxRecDepth 20000 in
theorem ggL_known_X6_init_c6 : GoodIn wsL_known wsX00 := goodIn_r _ [554, 555, 556] (by decide +kernel) (by decide +kernel)
set_option maxRecDepth 20000 in
theorem ggL_known_X6_init_c7 : GoodIn wsL_known wsX30 := goodIn_r _ [557, 558, 559, 560, 561, 562, 563, 564, 565] (by decide +kernel) (by decide +kernel)
set_option maxRecDepth 20000 in
theorem ggL_known_X6_init_c8 : GoodIn wsL_known wsX10 := goodIn_r _ [566, 567, 568, 569] (by decide +kernel) (by decide +kernel)
set_option maxRecDepth 20000 in
theorem ggL_known_X6_init_c9 : GoodIn wsL_known wsX50 := goodIn_r _ [570, 571, 572, 573, 574, 575, 576] (by decide +kernel) (by decide +kernel)
set_option maxRecDepth 20000 in
theorem ggL_known_X6_init_c10 : GoodIn wsL_known wsX20 := goodIn_r _ [577, 578, 579] (by decide +kernel) (by decide +kernel)
theorem ggL_known_X6_init : GoodIn wsL_known wsX6_init := by
  intro w h
  rcases List.mem_cons.mp h with h | h
  · exact ggL_known_X6_init_c0 w (List.mem_singleton.mpr h)
  rcases List.mem_append.mp h with h | h
  case inr => exact ggL_known_X6_init_c10 w h
  rcases List.mem_append.mp h with h | h
  case inr => exact ggL_known_X6_init_c9 w h
  rcases List.mem_append.mp h with h | h
  case inr => exact ggL_known_X6_init_c8 w h
  rcases List.mem_append.mp h with h | h
  case inr => exact ggL_known_X6_init_c7 w h
  rcases List.mem_append.mp h with h | h
  case inr => exact ggL_known_X6_init_c6 w h
  rcases List.mem_append.mp h with h | h
  case inr => exact ggL_known_X6_init_c5 w h
  rcases List.mem_append.mp h with h | h
  case inr => exact ggL_known_X6_init_c4 w h
  rcases List.mem_append.mp h with h | h
  · exact ggL_known_X6_init_c1 w h
  rcases List.mem_append.mp h with h | h
  · exact ggL_known_X6_init_c2 w h
  exact ggL_known_X6_init_c3 w h
set_option maxRecDepth 20000 in
theorem gL_known_X6_init : GoodIn wsL_known (wsX6_init) := ggL_known_X6_init
