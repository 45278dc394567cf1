set_option maxRecDepth 20000 in
theorem ggL_refused_X6_set_c0 : GoodIn wsL_refused [.code yX6_set cX6_set 4 (some .int)] := goodIn_r _ [404] (by decide +kernel) (by decide +kernel)
set_option maxRecDepth 20000 in
theorem ggL_refused_X6_set_c1 : GoodIn wsL_refused wsX6_set_r1 := goodIn_r _ [405, 406, 22, 13, 21, 142, 87, 11, 88, 208, 209, 210, 211, 212, 213, 214, 215, 216, 217, 218, 219, 220, 221, 222] (by decide +kernel) (by decide +kernel)
set_option maxRecDepth 20000 in
theorem ggL_refused_X6_set_c2 : GoodIn wsL_refused wsX6_set_r2 := goodIn_r _ [29, 223, 224, 39, 225, 50, 226, 227, 228, 229, 230, 231, 232, 233, 234, 84, 235, 86, 93, 236, 99, 104, 237, 238] (by decide +kernel) (by decide +kernel)
set_option maxRecDepth 20000 in
theorem ggL_refused_X6_set_c3 : GoodIn wsL_refused wsX6_set_r3 := goodIn_r _ [239, 43, 240, 167, 241, 67, 242, 72, 66, 148, 45, 243, 244, 245, 182, 246, 188, 189, 247, 198] (by decide +kernel) (by decide +kernel)
set_option maxRecDepth 20000 in
theorem ggL_refused_X6_set_c4 : GoodIn wsL_refused wsX60 := goodIn_r _ [482, 483, 484] (by decide +kernel) (by decide +kernel)
set_option maxRecDepth 20000 in
theorem ggL_refused_X6_set_c5 : GoodIn wsL_refused wsX40 := goodIn_r _ [485, 486, 487, 488, 489, 490] (by decide +kernel) (by decide +kernel)
set_option maxRecDepth 20000 in
theorem ggL_refused_X6_set_c6 : GoodIn wsL_refused wsX00 := goodIn_r _ [498, 499, 500] (by decide +kernel) (by decide +kernel)
set_option maxRecDepth 20000 in
theorem ggL_refused_X6_set_c7 : GoodIn wsL_refused wsX10 := goodIn_r _ [491, 492, 493, 494] (by decide +kernel) (by decide +kernel)
set_option maxRecDepth 20000 in
theorem ggL_refused_X6_set_c8 : GoodIn wsL_refused wsX50 := goodIn_r _ [510, 511, 512, 513, 514, 515, 516] (by decide +kernel) (by decide +kernel)
set_option maxRecDepth 20000 in
theorem ggL_refused_X6_set_c9 : GoodIn wsL_refused wsX20 := goodIn_r _ [495, 496, 497] (by decide +kernel) (by decide +kernel)
theorem ggL_refused_X6_set : GoodIn wsL_refused wsX6_set := by
  intro w h
  rcases List.mem_cons.mp h with h | h
  · exact ggL_refused_X6_set_c0 w (List.mem_singleton.mpr h)
  rcases List.mem_append.mp h with h | h
  case inr => exact ggL_refused_X6_set_c9 w h
  rcases List.mem_append.mp h with h | h
  case inr => exact ggL_refused_X6_set_c8 w h
  rcases List.mem_append.mp h with h | h
  case inr => exact ggL_refused_X6_set_c7 w h
  rcases List.mem_append.mp h with h | h
  case inr => exact ggL_refused_X6_set_c6 w h
  rcases List.mem_append.mp h with h | h
  case inr => exact ggL_refused_X6_set_c5 w h
  rcases List.mem_append.mp h with h | h
  case inr => exact ggL_refused_X6_set_c4 w h
  rcases List.mem_append.mp h with h | h
  · exact ggL_refused_X6_set_c1 w h
  rcases List.mem_append.mp h with h | h
  · exact ggL_refused_X6_set_c2 w h
  exact ggL_refused_X6_set_c3 w h
set_option maxRecDepth 20000 in
theorem gL_refused_X6_set : GoodIn wsL_refused (wsV RL 82 RX6 yX6_set wsX6_set) := goodIn_app (goodIn_of _ (by decide +kernel)) ggL_refused_X6_set
set_option maxRecDepth 20000 in
theorem ggL_refused_X6_level_c0 : GoodIn wsL_refused [.code yX6_level cX6_level 4 (some .int)] := goodIn_r _ [410] (by decide +kernel) (by decide +kernel)
set_option maxRecDepth 20000 in
theorem ggL_refused_X6_level_c1 : GoodIn wsL_refused wsX6_level_r1 := goodIn_r _ [13, 14, 22, 81, 82, 83, 84, 85, 86, 87, 11, 88, 142, 95, 96, 97, 98, 99, 94, 208, 209, 210, 211, 212] (by decide +kernel) (by decide +kernel)
set_option maxRecDepth 20000 in
theorem ggL_refused_X6_level_c2 : GoodIn wsL_refused wsX6_level_r2 := goodIn_r _ [213, 214, 215, 216, 217, 218, 219, 220, 221, 222, 29, 223, 224, 39, 225, 50, 226, 227, 228, 229, 230, 231, 232, 233] (by decide +kernel) (by decide +kernel)
set_option maxRecDepth 20000 in
theorem ggL_refused_X6_level_c3 : GoodIn wsL_refused wsX6_level_r3 := goodIn_r _ [234, 235, 93, 236, 104, 237, 238, 239, 43, 240, 167, 241, 67, 242, 72, 66, 148, 45, 243, 244, 245, 182, 246, 188] (by decide +kernel) (by decide +kernel)
set_option maxRecDepth 20000 in
theorem ggL_refused_X6_level_c4 : GoodIn wsL_refused wsX6_level_r4 := goodIn_r _ [189, 247, 198, 411, 412, 413, 414, 415, 262, 263, 264, 260, 265, 117, 118, 119, 120, 121, 90, 91, 92, 122, 123, 124] (by decide +kernel) (by decide +kernel)
set_option maxRecDepth 20000 in
theorem ggL_refused_X6_level_c5 : GoodIn wsL_refused wsX6_level_r5 := goodIn_r _ [125, 126, 127, 128, 129, 266, 267, 268, 269, 270, 271, 272, 273, 274, 275, 276, 277, 278] (by decide +kernel) (by decide +kernel)
set_option maxRecDepth 20000 in
theorem ggL_refused_X6_level_c6 : GoodIn wsL_refused wsX60 := goodIn_r _ [482, 483, 484] (by decide +kernel) (by decide +kernel)
set_option maxRecDepth 20000 in
theorem ggL_refused_X6_level_c7 : GoodIn wsL_refused wsX40 := goodIn_r _ [485, 486, 487, 488, 489, 490] (by decide +kernel) (by decide +kernel)
set_option maxRecDepth 20000 in
theorem ggL_refused_X6_level_c8 : GoodIn wsL_refused wsX10 := goodIn_r _ [491, 492, 493, 494] (by decide +kernel) (by decide +kernel)
set_option maxRecDepth 20000 in
theorem ggL_refused_X6_level_c9 : GoodIn wsL_refused wsX00 := goodIn_r _ [498, 499, 500] (by decide +kernel) (by decide +kernel)
set_option maxRecDepth 20000 in
theorem ggL_refused_X6_level_c10 : GoodIn wsL_refused wsX50 := goodIn_r _ [510, 511, 512, 513, 514, 515, 516] (by decide +kernel) (by decide +kernel)
set_option maxRecDepth 20000 in
theorem ggL_refused_X6_level_c11 : GoodIn wsL_refused wsX20 := goodIn_r _ [495, 496, 497] (by decide +kernel) (by decide +kernel)
theorem ggL_refused_X6_level : GoodIn wsL_refused wsX6_level := by
  intro w h
  rcases List.mem_cons.mp h with h | h
  · exact ggL_refused_X6_level_c0 w (List.mem_singleton.mpr h)
  rcases List.mem_append.mp h with h | h
  case inr => exact ggL_refused_X6_level_c11 w h
  rcases List.mem_append.mp h with h | h
  case inr => exact ggL_refused_X6_level_c10 w h
  rcases List.mem_append.mp h with h | h
  case inr => exact ggL_refused_X6_level_c9 w h
  rcases List.mem_append.mp h with h | h
  case inr => exact ggL_refused_X6_level_c8 w h
  rcases List.mem_append.mp h with h | h
  case inr => exact ggL_refused_X6_level_c7 w h
  rcases List.mem_append.mp h with h | h
  case inr => exact ggL_refused_X6_level_c6 w h
  rcases List.mem_append.mp h with h | h
  · exact ggL_refused_X6_level_c1 w h
  rcases List.mem_append.mp h with h | h
  · exact ggL_refused_X6_level_c2 w h
  rcases List.mem_append.mp h with h | h
  · exact ggL_refused_X6_level_c3 w h
  rcases List.mem_append.mp h with h | h
  · exact ggL_refused_X6_level_c4 w h
  exact ggL_refused_X6_level_c5 w h
set_option maxRecDepth 20000 in
theorem gL_refused_X6_level : GoodIn wsL_refused (wsV RL 87 RX6 yX6_level wsX6_level) := goodIn_app (goodIn_of _ (by decide +kernel)) ggL_refused_X6_level
set_option maxRecDepth 20000 in
theorem ggL_refused_X6_fretInfo_c0 : GoodIn wsL_refused [.code yX6_fretInfo cX6_fretInfo 3 (some .int)] := goodIn_r _ [80] (by decide +kernel) (by decide +kernel)
set_option maxRecDepth 20000 in
theorem ggL_refused_X6_fretInfo_c1 : GoodIn wsL_refused wsX6_fretInfo_r1 := goodIn_r _ [13, 14, 17, 81, 82, 83, 84, 85, 86, 87, 11, 88, 89, 90, 91, 92, 93, 94, 95, 96, 97, 98, 99, 100] (by decide +kernel) (by decide +kernel)
set_option maxRecDepth 20000 in
theorem ggL_refused_X6_fretInfo_c2 : GoodIn wsL_refused wsX6_fretInfo_r2 := goodIn_r _ [101, 102, 103, 104, 105, 106, 107, 43, 108, 67, 109, 110, 111, 112, 113, 114, 115, 66, 116, 117, 118, 119, 120, 121] (by decide +kernel) (by decide +kernel)
set_option maxRecDepth 20000 in
theorem ggL_refused_X6_fretInfo_c3 : GoodIn wsL_refused wsX6_fretInfo_r3 := goodIn_r _ [122, 123, 124, 125, 126, 127, 128, 129] (by decide +kernel) (by decide +kernel)
set_option maxRecDepth 20000 in
theorem ggL_refused_X6_fretInfo_c4 : GoodIn wsL_refused wsX60 := goodIn_r _ [482, 483, 484] (by decide +kernel) (by decide +kernel)
set_option maxRecDepth 20000 in
theorem ggL_refused_X6_fretInfo_c5 : GoodIn wsL_refused wsX40 := goodIn_r _ [485, 486, 487, 488, 489, 490] (by decide +kernel) (by decide +kernel)
set_option maxRecDepth 20000 in
theorem ggL_refused_X6_fretInfo_c6 : GoodIn wsL_refused wsX10 := goodIn_r _ [491, 492, 493, 494] (by decide +kernel) (by decide +kernel)
set_option maxRecDepth 20000 in
theorem ggL_refused_X6_fretInfo_c7 : GoodIn wsL_refused wsX50 := goodIn_r _ [510, 511, 512, 513, 514, 515, 516] (by decide +kernel) (by decide +kernel)
theorem ggL_refused_X6_fretInfo : GoodIn wsL_refused wsX6_fretInfo := by
  intro w h
  rcases List.mem_cons.mp h with h | h
  · exact ggL_refused_X6_fretInfo_c0 w (List.mem_singleton.mpr h)
  rcases List.mem_append.mp h with h | h
  case inr => exact ggL_refused_X6_fretInfo_c7 w h
  rcases List.mem_append.mp h with h | h
  case inr => exact ggL_refused_X6_fretInfo_c6 w h
  rcases List.mem_append.mp h with h | h
  case inr => exact ggL_refused_X6_fretInfo_c5 w h
  rcases List.mem_append.mp h with h | h
  case inr => exact ggL_refused_X6_fretInfo_c4 w h
  rcases List.mem_append.mp h with h | h
  · exact ggL_refused_X6_fretInfo_c1 w h
  rcases List.mem_append.mp h with h | h
  · exact ggL_refused_X6_fretInfo_c2 w h
  exact ggL_refused_X6_fretInfo_c3 w h
set_option maxRecDepth 20000 in
theorem gL_refused_X6_fretInfo : GoodIn wsL_refused (wsV RL 25 RX6 yX6_fretInfo wsX6_fretInfo) := goodIn_app (goodIn_of _ (by decide +kernel)) ggL_refused_X6_fretInfo
set_option maxRecDepth 20000 in
theorem ggL_refused_X6_mostFor_c0 : GoodIn wsL_refused [.code yX6_mostFor cX6_mostFor 2 (some .int)] := goodIn_r _ [419] (by decide +kernel) (by decide +kernel)
set_option maxRecDepth 20000 in
theorem ggL_refused_X6_mostFor_c1 : GoodIn wsL_refused wsX6_mostFor_r1 := goodIn_r _ [13, 14, 81, 82, 83, 84, 85, 86, 87, 11, 88, 420, 421, 422, 423, 321, 303, 304, 305, 322, 323, 324, 121, 90] (by decide +kernel) (by decide +kernel)
set_option maxRecDepth 20000 in
theorem ggL_refused_X6_mostFor_c2 : GoodIn wsL_refused wsX6_mostFor_r2 := goodIn_r _ [91, 92, 93, 94, 122, 123, 124, 125, 120, 96, 97, 98, 99, 126, 127, 128, 129] (by decide +kernel) (by decide +kernel)
set_option maxRecDepth 20000 in
theorem ggL_refused_X6_mostFor_c3 : GoodIn wsL_refused wsX60 := goodIn_r _ [482, 483, 484] (by decide +kernel) (by decide +kernel)
set_option maxRecDepth 20000 in
theorem ggL_refused_X6_mostFor_c4 : GoodIn wsL_refused wsX40 := goodIn_r _ [485, 486, 487, 488, 489, 490] (by decide +kernel) (by decide +kernel)
set_option maxRecDepth 20000 in
theorem ggL_refused_X6_mostFor_c5 : GoodIn wsL_refused wsX10 := goodIn_r _ [491, 492, 493, 494] (by decide +kernel) (by decide +kernel)
theorem ggL_refused_X6_mostFor : GoodIn wsL_refused wsX6_mostFor := by
  intro w h
  rcases List.mem_cons.mp h with h | h
  · exact ggL_refused_X6_mostFor_c0 w (List.mem_singleton.mpr h)
  rcases List.mem_append.mp h with h | h
  case inr => exact ggL_refused_X6_mostFor_c5 w h
  rcases List.mem_append.mp h with h | h
  case inr => exact ggL_refused_X6_mostFor_c4 w h
  rcases List.mem_append.mp h with h | h
  case inr => exact ggL_refused_X6_mostFor_c3 w h
  rcases List.mem_append.mp h with h | h
  · exact ggL_refused_X6_mostFor_c1 w h
  exact ggL_refused_X6_mostFor_c2 w h
set_option maxRecDepth 20000 in
theorem gL_refused_X6_mostFor : GoodIn wsL_refused (wsV RL 90 RX6 yX6_mostFor wsX6_mostFor) := goodIn_app (goodIn_of _ (by decide +kernel)) ggL_refused_X6_mostFor
set_option maxRecDepth 20000 in
theorem ggL_refused_X6_run_c0 : GoodIn wsL_refused [.code yX6_run cX6_run 2 (some .int)] := goodIn_r _ [427] (by decide +kernel) (by decide +kernel)
set_option maxRecDepth 20000 in
theorem ggL_refused_X6_run_c1 : GoodIn wsL_refused wsX6_run_r1 := goodIn_r _ [13, 16, 428, 22, 142, 87, 11, 88, 208, 209, 210, 211, 212, 213, 214, 215, 216, 217, 218, 219, 220, 221, 222, 29] (by decide +kernel) (by decide +kernel)
set_option maxRecDepth 20000 in
theorem ggL_refused_X6_run_c2 : GoodIn wsL_refused wsX6_run_r2 := goodIn_r _ [223, 224, 39, 225, 50, 226, 227, 228, 229, 230, 231, 232, 233, 234, 84, 235, 86, 93, 236, 99, 104, 237, 238, 239] (by decide +kernel) (by decide +kernel)
set_option maxRecDepth 20000 in
theorem ggL_refused_X6_run_c3 : GoodIn wsL_refused wsX6_run_r3 := goodIn_r _ [43, 240, 167, 241, 67, 242, 72, 66, 148, 45, 243, 244, 245, 182, 246, 188, 189, 247, 198, 429, 430, 431, 432, 352] (by decide +kernel) (by decide +kernel)
set_option maxRecDepth 20000 in
theorem ggL_refused_X6_run_c4 : GoodIn wsL_refused wsX6_run_r4 := goodIn_r _ [353, 354, 355, 306, 307, 308, 309, 302, 303, 304, 305, 168, 145, 146, 147, 310, 311, 128, 312, 40, 41, 42, 44, 356] (by decide +kernel) (by decide +kernel)
set_option maxRecDepth 20000 in
theorem ggL_refused_X6_run_c5 : GoodIn wsL_refused wsX6_run_r5 := goodIn_r _ [357, 358, 359, 433, 276, 277, 278, 26, 27, 28, 30, 31, 32, 33, 34, 35, 36, 37, 38, 46, 47, 48, 49, 51] (by decide +kernel) (by decide +kernel)
set_option maxRecDepth 20000 in
theorem ggL_refused_X6_run_c6 : GoodIn wsL_refused wsX6_run_r6 := goodIn_r _ [52, 53, 54, 55, 56, 57] (by decide +kernel) (by decide +kernel)
set_option maxRecDepth 20000 in
theorem ggL_refused_X6_run_c7 : GoodIn wsL_refused wsX60 := goodIn_r _ [482, 483, 484] (by decide +kernel) (by decide +kernel)
set_option maxRecDepth 20000 in
theorem ggL_refused_X6_run_c8 : GoodIn wsL_refused wsX40 := goodIn_r _ [485, 486, 487, 488, 489, 490] (by decide +kernel) (by decide +kernel)
set_option maxRecDepth 20000 in
theorem ggL_refused_X6_run_c9 : GoodIn wsL_refused wsX00 := goodIn_r _ [498, 499, 500] (by decide +kernel) (by decide +kernel)
set_option maxRecDepth 20000 in
theorem ggL_refused_X6_run_c10 : GoodIn wsL_refused wsX10 := goodIn_r _ [491, 492, 493, 494] (by decide +kernel) (by decide +kernel)
set_option maxRecDepth 20000 in
theorem ggL_refused_X6_run_c11 : GoodIn wsL_refused wsX50 := goodIn_r _ [510, 511, 512, 513, 514, 515, 516] (by decide +kernel) (by decide +kernel)
set_option maxRecDepth 20000 in
theorem ggL_refused_X6_run_c12 : GoodIn wsL_refused wsX20 := goodIn_r _ [495, 496, 497] (by decide +kernel) (by decide +kernel)
theorem ggL_refused_X6_run : GoodIn wsL_refused wsX6_run := by
  intro w h
  rcases List.mem_cons.mp h with h | h
  · exact ggL_refused_X6_run_c0 w (List.mem_singleton.mpr h)
  rcases List.mem_append.mp h with h | h
  case inr => exact ggL_refused_X6_run_c12 w h
  rcases List.mem_append.mp h with h | h
  case inr => exact ggL_refused_X6_run_c11 w h
  rcases List.mem_append.mp h with h | h
  case inr => exact ggL_refused_X6_run_c10 w h
  rcases List.mem_append.mp h with h | h
  case inr => exact ggL_refused_X6_run_c9 w h
  rcases List.mem_append.mp h with h | h
  case inr => exact ggL_refused_X6_run_c8 w h
  rcases List.mem_append.mp h with h | h
  case inr => exact ggL_refused_X6_run_c7 w h
  rcases List.mem_append.mp h with h | h
  · exact ggL_refused_X6_run_c1 w h
  rcases List.mem_append.mp h with h | h
  · exact ggL_refused_X6_run_c2 w h
  rcases List.mem_append.mp h with h | h
  · exact ggL_refused_X6_run_c3 w h
  rcases List.mem_append.mp h with h | h
  · exact ggL_refused_X6_run_c4 w h
  rcases List.mem_append.mp h with h | h
  · exact ggL_refused_X6_run_c5 w h
  exact ggL_refused_X6_run_c6 w h
set_option maxRecDepth 20000 in
theorem gL_refused_X6_run : GoodIn wsL_refused (wsV RL 93 RX6 yX6_run wsX6_run) := goodIn_app (goodIn_of _ (by decide +kernel)) ggL_refused_X6_run
set_option maxRecDepth 20000 in
theorem ggL_refused_X6_played : GoodIn wsL_refused wsX6_played := goodIn_r _ [178, 13, 18, 19, 142, 87, 11, 88, 179, 180, 181, 182, 183, 184, 185, 186, 187, 188, 189, 190, 191, 192, 193, 194, 195, 196, 197, 198, 482, 483, 484, 485, 486, 487, 488, 489, 490, 495, 496, 497] (by decide +kernel) (by decide +kernel)
set_option maxRecDepth 20000 in
theorem gL_refused_X6_played : GoodIn wsL_refused (wsV RL 36 RX6 yX6_played wsX6_played) := goodIn_app (goodIn_of _ (by decide +kernel)) ggL_refused_X6_played
set_option maxRecDepth 20000 in
theorem ggL_refused_X6_type : GoodIn wsL_refused wsX6_type := goodIn_r _ [437, 24, 25, 142, 87, 11, 88, 438, 439, 440, 441, 442, 443, 444, 482, 483, 484, 501, 502, 503, 504, 505, 506, 507, 508, 509] (by decide +kernel) (by decide +kernel)
set_option maxRecDepth 20000 in
theorem gL_refused_X6_type : GoodIn wsL_refused (wsV RL 96 RX6 yX6_type wsX6_type) := goodIn_app (goodIn_of _ (by decide +kernel)) ggL_refused_X6_type
set_option maxRecDepth 20000 in
theorem ggL_refused_X6_fault_c0 : GoodIn wsL_refused [.code yX6_fault cX6_fault 3 (some .int)] := goodIn_r _ [448] (by decide +kernel) (by decide +kernel)
set_option maxRecDepth 20000 in
theorem ggL_refused_X6_fault_c1 : GoodIn wsL_refused wsX6_fault_r1 := goodIn_r _ [24, 13, 14, 15, 16, 449, 142, 87, 11, 88, 450, 451, 452, 441, 453, 443, 454, 455, 456, 457, 458, 459, 460, 461] (by decide +kernel) (by decide +kernel)
set_option maxRecDepth 20000 in
theorem ggL_refused_X6_fault_c2 : GoodIn wsL_refused wsX6_fault_r2 := goodIn_r _ [462, 463, 464, 465, 466, 467, 468, 469, 470, 471, 472, 473, 474, 475, 476, 477, 444, 140, 141, 478, 479, 480, 481] (by decide +kernel) (by decide +kernel)
set_option maxRecDepth 20000 in
theorem ggL_refused_X6_fault_c3 : GoodIn wsL_refused wsX60 := goodIn_r _ [482, 483, 484] (by decide +kernel) (by decide +kernel)
set_option maxRecDepth 20000 in
theorem ggL_refused_X6_fault_c4 : GoodIn wsL_refused wsX40 := goodIn_r _ [485, 486, 487, 488, 489, 490] (by decide +kernel) (by decide +kernel)
set_option maxRecDepth 20000 in
theorem ggL_refused_X6_fault_c5 : GoodIn wsL_refused wsX10 := goodIn_r _ [491, 492, 493, 494] (by decide +kernel) (by decide +kernel)
set_option maxRecDepth 20000 in
theorem ggL_refused_X6_fault_c6 : GoodIn wsL_refused wsX30 := goodIn_r _ [501, 502, 503, 504, 505, 506, 507, 508, 509] (by decide +kernel) (by decide +kernel)
theorem ggL_refused_X6_fault : GoodIn wsL_refused wsX6_fault := by
  intro w h
  rcases List.mem_cons.mp h with h | h
  · exact ggL_refused_X6_fault_c0 w (List.mem_singleton.mpr h)
  rcases List.mem_append.mp h with h | h
  case inr => exact ggL_refused_X6_fault_c6 w h
  rcases List.mem_append.mp h with h | h
  case inr => exact ggL_refused_X6_fault_c5 w h
  rcases List.mem_append.mp h with h | h
  case inr => exact ggL_refused_X6_fault_c4 w h
  rcases List.mem_append.mp h with h | h
  case inr => exact ggL_refused_X6_fault_c3 w h
  rcases List.mem_append.mp h with h | h
  · exact ggL_refused_X6_fault_c1 w h
  exact ggL_refused_X6_fault_c2 w h
set_option maxRecDepth 20000 in
theorem gL_refused_X6_fault : GoodIn wsL_refused (wsV RL 99 RX6 yX6_fault wsX6_fault) := goodIn_app (goodIn_of _ (by decide +kernel)) ggL_refused_X6_fault
