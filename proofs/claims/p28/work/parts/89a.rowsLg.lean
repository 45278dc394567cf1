set_option maxRecDepth 20000 in
theorem ggL_state_X6_count_c0 : GoodIn wsL_state [.code yX6_count cX6_count 2 (some .int)] := goodIn_r _ [6] (by decide +kernel) (by decide +kernel)
set_option maxRecDepth 20000 in
theorem ggL_state_X6_count_c1 : GoodIn wsL_state wsX6_count_r1 := goodIn_r _ [7, 8, 9, 10, 11, 12, 13, 14, 15, 16, 17, 18, 19, 20, 21, 22, 23, 24, 25, 26, 27, 28, 29, 30] (by decide +kernel) (by decide +kernel)
set_option maxRecDepth 20000 in
theorem ggL_state_X6_count_c2 : GoodIn wsL_state wsX6_count_r2 := goodIn_r _ [31, 32, 33, 34, 35, 36, 37, 38, 39, 40, 41, 42, 43, 44, 45, 46, 47, 48, 49, 50, 51, 52, 53, 54] (by decide +kernel) (by decide +kernel)
set_option maxRecDepth 20000 in
theorem ggL_state_X6_count_c3 : GoodIn wsL_state wsX6_count_r3 := goodIn_r _ [55, 56, 57, 58, 59, 60, 61, 62, 63, 64, 65, 66] (by decide +kernel) (by decide +kernel)
set_option maxRecDepth 20000 in
theorem ggL_state_X6_count_c4 : GoodIn wsL_state wsX60 := goodIn_r _ [194, 195, 196] (by decide +kernel) (by decide +kernel)
set_option maxRecDepth 20000 in
theorem ggL_state_X6_count_c5 : GoodIn wsL_state wsX40 := goodIn_r _ [197, 198, 199, 200, 201, 202] (by decide +kernel) (by decide +kernel)
set_option maxRecDepth 20000 in
theorem ggL_state_X6_count_c6 : GoodIn wsL_state wsX10 := goodIn_r _ [203, 204, 205, 206] (by decide +kernel) (by decide +kernel)
set_option maxRecDepth 20000 in
theorem ggL_state_X6_count_c7 : GoodIn wsL_state wsX20 := goodIn_r _ [207, 208, 209] (by decide +kernel) (by decide +kernel)
set_option maxRecDepth 20000 in
theorem ggL_state_X6_count_c8 : GoodIn wsL_state wsX00 := goodIn_r _ [210, 211, 212] (by decide +kernel) (by decide +kernel)
set_option maxRecDepth 20000 in
theorem ggL_state_X6_count_c9 : GoodIn wsL_state wsX30 := goodIn_r _ [213, 214, 215, 216, 217, 218, 219, 220, 221] (by decide +kernel) (by decide +kernel)
set_option maxRecDepth 20000 in
theorem ggL_state_X6_count_c10 : GoodIn wsL_state wsX50 := goodIn_r _ [222, 223, 224, 225, 226, 227, 228] (by decide +kernel) (by decide +kernel)
theorem ggL_state_X6_count : GoodIn wsL_state wsX6_count := by
  intro w h
  rcases List.mem_cons.mp h with h | h
  · exact ggL_state_X6_count_c0 w (List.mem_singleton.mpr h)
  rcases List.mem_append.mp h with h | h
  case inr => exact ggL_state_X6_count_c10 w h
  rcases List.mem_append.mp h with h | h
  case inr => exact ggL_state_X6_count_c9 w h
  rcases List.mem_append.mp h with h | h
  case inr => exact ggL_state_X6_count_c8 w h
  rcases List.mem_append.mp h with h | h
  case inr => exact ggL_state_X6_count_c7 w h
  rcases List.mem_append.mp h with h | h
  case inr => exact ggL_state_X6_count_c6 w h
  rcases List.mem_append.mp h with h | h
  case inr => exact ggL_state_X6_count_c5 w h
  rcases List.mem_append.mp h with h | h
  case inr => exact ggL_state_X6_count_c4 w h
  rcases List.mem_append.mp h with h | h
  · exact ggL_state_X6_count_c1 w h
  rcases List.mem_append.mp h with h | h
  · exact ggL_state_X6_count_c2 w h
  exact ggL_state_X6_count_c3 w h
set_option maxRecDepth 20000 in
theorem gL_state_X6_count : GoodIn wsL_state (wsV RL 13 RX6 yX6_count wsX6_count) := goodIn_app (goodIn_of _ (by decide +kernel)) ggL_state_X6_count
set_option maxRecDepth 20000 in
theorem ggL_state_L_mixed : GoodIn wsL_state wsL_mixed := goodIn_r _ [70, 71] (by decide +kernel) (by decide +kernel)
set_option maxRecDepth 20000 in
theorem gL_state_L_mixed : GoodIn wsL_state (va_wsS RL 19 yL_mixed wsL_mixed) := goodIn_app (goodIn_of _ (by decide +kernel)) ggL_state_L_mixed
set_option maxRecDepth 20000 in
theorem ggL_state_X6_fretInfo_c0 : GoodIn wsL_state [.code yX6_fretInfo cX6_fretInfo 3 (some .int)] := goodIn_r _ [75] (by decide +kernel) (by decide +kernel)
set_option maxRecDepth 20000 in
theorem ggL_state_X6_fretInfo_c1 : GoodIn wsL_state wsX6_fretInfo_r1 := goodIn_r _ [7, 8, 11, 76, 77, 78, 79, 80, 81, 82, 5, 83, 84, 85, 86, 87, 88, 89, 90, 91, 92, 93, 94, 95] (by decide +kernel) (by decide +kernel)
set_option maxRecDepth 20000 in
theorem ggL_state_X6_fretInfo_c2 : GoodIn wsL_state wsX6_fretInfo_r2 := goodIn_r _ [96, 97, 98, 99, 100, 101, 102, 37, 103, 61, 104, 105, 106, 107, 108, 109, 110, 60, 111, 112, 113, 114, 115, 116] (by decide +kernel) (by decide +kernel)
set_option maxRecDepth 20000 in
theorem ggL_state_X6_fretInfo_c3 : GoodIn wsL_state wsX6_fretInfo_r3 := goodIn_r _ [117, 118, 119, 120, 121, 122, 123, 124] (by decide +kernel) (by decide +kernel)
set_option maxRecDepth 20000 in
theorem ggL_state_X6_fretInfo_c4 : GoodIn wsL_state wsX60 := goodIn_r _ [194, 195, 196] (by decide +kernel) (by decide +kernel)
set_option maxRecDepth 20000 in
theorem ggL_state_X6_fretInfo_c5 : GoodIn wsL_state wsX40 := goodIn_r _ [197, 198, 199, 200, 201, 202] (by decide +kernel) (by decide +kernel)
set_option maxRecDepth 20000 in
theorem ggL_state_X6_fretInfo_c6 : GoodIn wsL_state wsX10 := goodIn_r _ [203, 204, 205, 206] (by decide +kernel) (by decide +kernel)
set_option maxRecDepth 20000 in
theorem ggL_state_X6_fretInfo_c7 : GoodIn wsL_state wsX50 := goodIn_r _ [222, 223, 224, 225, 226, 227, 228] (by decide +kernel) (by decide +kernel)
theorem ggL_state_X6_fretInfo : GoodIn wsL_state wsX6_fretInfo := by
  intro w h
  rcases List.mem_cons.mp h with h | h
  · exact ggL_state_X6_fretInfo_c0 w (List.mem_singleton.mpr h)
  rcases List.mem_append.mp h with h | h
  case inr => exact ggL_state_X6_fretInfo_c7 w h
  rcases List.mem_append.mp h with h | h
  case inr => exact ggL_state_X6_fretInfo_c6 w h
  rcases List.mem_append.mp h with h | h
  case inr => exact ggL_state_X6_fretInfo_c5 w h
  rcases List.mem_append.mp h with h | h
  case inr => exact ggL_state_X6_fretInfo_c4 w h
  rcases List.mem_append.mp h with h | h
  · exact ggL_state_X6_fretInfo_c1 w h
  rcases List.mem_append.mp h with h | h
  · exact ggL_state_X6_fretInfo_c2 w h
  exact ggL_state_X6_fretInfo_c3 w h
set_option maxRecDepth 20000 in
theorem gL_state_X6_fretInfo : GoodIn wsL_state (wsV RL 25 RX6 yX6_fretInfo wsX6_fretInfo) := goodIn_app (goodIn_of _ (by decide +kernel)) ggL_state_X6_fretInfo
set_option maxRecDepth 20000 in
theorem ggL_state_X6_stringInfo_c0 : GoodIn wsL_state [.code yX6_stringInfo cX6_stringInfo 3 (some .int)] := goodIn_r _ [128] (by decide +kernel) (by decide +kernel)
set_option maxRecDepth 20000 in
theorem ggL_state_X6_stringInfo_c1 : GoodIn wsL_state wsX6_stringInfo_r1 := goodIn_r _ [7, 11, 129, 130, 131, 132, 133, 134, 135, 5, 136, 137, 82, 83, 138, 57, 58, 37, 59, 60, 61, 139, 140, 141] (by decide +kernel) (by decide +kernel)
set_option maxRecDepth 20000 in
theorem ggL_state_X6_stringInfo_c2 : GoodIn wsL_state wsX6_stringInfo_r2 := goodIn_r _ [142, 143, 144, 30, 31, 23, 32, 33, 34, 35, 36, 38, 39, 40, 41, 42, 43, 44, 145, 146, 147, 148, 149] (by decide +kernel) (by decide +kernel)
set_option maxRecDepth 20000 in
theorem ggL_state_X6_stringInfo_c3 : GoodIn wsL_state wsX60 := goodIn_r _ [194, 195, 196] (by decide +kernel) (by decide +kernel)
set_option maxRecDepth 20000 in
theorem ggL_state_X6_stringInfo_c4 : GoodIn wsL_state wsX40 := goodIn_r _ [197, 198, 199, 200, 201, 202] (by decide +kernel) (by decide +kernel)
set_option maxRecDepth 20000 in
theorem ggL_state_X6_stringInfo_c5 : GoodIn wsL_state wsX50 := goodIn_r _ [222, 223, 224, 225, 226, 227, 228] (by decide +kernel) (by decide +kernel)
theorem ggL_state_X6_stringInfo : GoodIn wsL_state wsX6_stringInfo := by
  intro w h
  rcases List.mem_cons.mp h with h | h
  · exact ggL_state_X6_stringInfo_c0 w (List.mem_singleton.mpr h)
  rcases List.mem_append.mp h with h | h
  case inr => exact ggL_state_X6_stringInfo_c5 w h
  rcases List.mem_append.mp h with h | h
  case inr => exact ggL_state_X6_stringInfo_c4 w h
  rcases List.mem_append.mp h with h | h
  case inr => exact ggL_state_X6_stringInfo_c3 w h
  rcases List.mem_append.mp h with h | h
  · exact ggL_state_X6_stringInfo_c1 w h
  exact ggL_state_X6_stringInfo_c2 w h
set_option maxRecDepth 20000 in
theorem gL_state_X6_stringInfo : GoodIn wsL_state (wsV RL 29 RX6 yX6_stringInfo wsX6_stringInfo) := goodIn_app (goodIn_of _ (by decide +kernel)) ggL_state_X6_stringInfo
set_option maxRecDepth 20000 in
theorem ggL_state_X6_modeInfo_c0 : GoodIn wsL_state [.code yX6_modeInfo cX6_modeInfo 4 (some .int)] := goodIn_r _ [153] (by decide +kernel) (by decide +kernel)
set_option maxRecDepth 20000 in
theorem ggL_state_X6_modeInfo_c1 : GoodIn wsL_state wsX6_modeInfo_r1 := goodIn_r _ [7, 11, 134, 135, 5, 136, 137, 82, 83, 154, 155, 156, 157, 35, 36, 37, 38, 39, 158, 159, 160, 161, 162, 163] (by decide +kernel) (by decide +kernel)
set_option maxRecDepth 20000 in
theorem ggL_state_X6_modeInfo_c2 : GoodIn wsL_state wsX6_modeInfo_r2 := goodIn_r _ [140, 141, 142, 143, 164, 165, 166, 167, 168, 169] (by decide +kernel) (by decide +kernel)
set_option maxRecDepth 20000 in
theorem ggL_state_X6_modeInfo_c3 : GoodIn wsL_state wsX60 := goodIn_r _ [194, 195, 196] (by decide +kernel) (by decide +kernel)
set_option maxRecDepth 20000 in
theorem ggL_state_X6_modeInfo_c4 : GoodIn wsL_state wsX40 := goodIn_r _ [197, 198, 199, 200, 201, 202] (by decide +kernel) (by decide +kernel)
set_option maxRecDepth 20000 in
theorem ggL_state_X6_modeInfo_c5 : GoodIn wsL_state wsX50 := goodIn_r _ [222, 223, 224, 225, 226, 227, 228] (by decide +kernel) (by decide +kernel)
theorem ggL_state_X6_modeInfo : GoodIn wsL_state wsX6_modeInfo := by
  intro w h
  rcases List.mem_cons.mp h with h | h
  · exact ggL_state_X6_modeInfo_c0 w (List.mem_singleton.mpr h)
  rcases List.mem_append.mp h with h | h
  case inr => exact ggL_state_X6_modeInfo_c5 w h
  rcases List.mem_append.mp h with h | h
  case inr => exact ggL_state_X6_modeInfo_c4 w h
  rcases List.mem_append.mp h with h | h
  case inr => exact ggL_state_X6_modeInfo_c3 w h
  rcases List.mem_append.mp h with h | h
  · exact ggL_state_X6_modeInfo_c1 w h
  exact ggL_state_X6_modeInfo_c2 w h
set_option maxRecDepth 20000 in
theorem gL_state_X6_modeInfo : GoodIn wsL_state (wsV RL 32 RX6 yX6_modeInfo wsX6_modeInfo) := goodIn_app (goodIn_of _ (by decide +kernel)) ggL_state_X6_modeInfo
set_option maxRecDepth 20000 in
theorem ggL_state_X6_played : GoodIn wsL_state wsX6_played := goodIn_r _ [173, 7, 12, 13, 137, 82, 5, 83, 174, 175, 176, 177, 178, 179, 180, 181, 182, 183, 184, 185, 186, 187, 188, 189, 190, 191, 192, 193, 194, 195, 196, 197, 198, 199, 200, 201, 202, 207, 208, 209] (by decide +kernel) (by decide +kernel)
set_option maxRecDepth 20000 in
theorem gL_state_X6_played : GoodIn wsL_state (wsV RL 36 RX6 yX6_played wsX6_played) := goodIn_app (goodIn_of _ (by decide +kernel)) ggL_state_X6_played
set_option maxRecDepth 20000 in
theorem ggL_types_X6_type : GoodIn wsL_types wsX6_type := goodIn_r _ [6, 7, 8, 9, 10, 5, 11, 12, 13, 14, 15, 16, 17, 18, 19, 20, 21, 22, 23, 24, 25, 26, 27, 28, 29, 30] (by decide +kernel) (by decide +kernel)
set_option maxRecDepth 20000 in
theorem gL_types_X6_type : GoodIn wsL_types (wsV RL 96 RX6 yX6_type wsX6_type) := goodIn_app (goodIn_of _ (by decide +kernel)) ggL_types_X6_type
set_option maxRecDepth 20000 in
theorem ggL_isFault_X6_clearText : GoodIn wsL_isFault wsX6_clearText := goodIn_r _ [5, 6, 7, 70, 71, 72, 73, 74, 75, 76, 77, 78, 79, 80, 81] (by decide +kernel) (by decide +kernel)
set_option maxRecDepth 20000 in
theorem gL_isFault_X6_clearText : GoodIn wsL_isFault (wsV RL 104 RX6 yX6_clearText wsX6_clearText) := goodIn_app (goodIn_of _ (by decide +kernel)) ggL_isFault_X6_clearText
set_option maxRecDepth 20000 in
theorem ggL_isFault_L_types : GoodIn wsL_isFault wsL_types := goodIn_r _ [11, 12, 13, 14, 15, 4, 16, 6, 7, 17, 18, 19, 20, 21, 22, 23, 24, 25, 26, 70, 71, 72, 73, 74, 75, 76, 77, 78, 79, 80, 81] (by decide +kernel) (by decide +kernel)
set_option maxRecDepth 20000 in
theorem gL_isFault_L_types : GoodIn wsL_isFault (va_wsS RL 108 yL_types wsL_types) := goodIn_app (goodIn_of _ (by decide +kernel)) ggL_isFault_L_types
set_option maxRecDepth 20000 in
theorem ggL_isFault_X6_fault_c0 : GoodIn wsL_isFault [.code yX6_fault cX6_fault 3 (some .int)] := goodIn_r _ [30] (by decide +kernel) (by decide +kernel)
set_option maxRecDepth 20000 in
theorem ggL_isFault_X6_fault_c1 : GoodIn wsL_isFault wsX6_fault_r1 := goodIn_r _ [6, 31, 32, 33, 34, 35, 17, 18, 4, 19, 36, 37, 38, 23, 39, 25, 40, 41, 42, 43, 44, 45, 46, 47] (by decide +kernel) (by decide +kernel)
set_option maxRecDepth 20000 in
theorem ggL_isFault_X6_fault_c2 : GoodIn wsL_isFault wsX6_fault_r2 := goodIn_r _ [48, 49, 50, 51, 52, 53, 54, 55, 56, 57, 58, 59, 60, 61, 62, 63, 26, 64, 65, 66, 67, 68, 69] (by decide +kernel) (by decide +kernel)
set_option maxRecDepth 20000 in
theorem ggL_isFault_X6_fault_c3 : GoodIn wsL_isFault wsX60 := goodIn_r _ [70, 71, 72] (by decide +kernel) (by decide +kernel)
set_option maxRecDepth 20000 in
theorem ggL_isFault_X6_fault_c4 : GoodIn wsL_isFault wsX40 := goodIn_r _ [82, 83, 84, 85, 86, 87] (by decide +kernel) (by decide +kernel)
set_option maxRecDepth 20000 in
theorem ggL_isFault_X6_fault_c5 : GoodIn wsL_isFault wsX10 := goodIn_r _ [88, 89, 90, 91] (by decide +kernel) (by decide +kernel)
set_option maxRecDepth 20000 in
theorem ggL_isFault_X6_fault_c6 : GoodIn wsL_isFault wsX30 := goodIn_r _ [73, 74, 75, 76, 77, 78, 79, 80, 81] (by decide +kernel) (by decide +kernel)
theorem ggL_isFault_X6_fault : GoodIn wsL_isFault wsX6_fault := by
  intro w h
  rcases List.mem_cons.mp h with h | h
  · exact ggL_isFault_X6_fault_c0 w (List.mem_singleton.mpr h)
  rcases List.mem_append.mp h with h | h
  case inr => exact ggL_isFault_X6_fault_c6 w h
  rcases List.mem_append.mp h with h | h
  case inr => exact ggL_isFault_X6_fault_c5 w h
  rcases List.mem_append.mp h with h | h
  case inr => exact ggL_isFault_X6_fault_c4 w h
  rcases List.mem_append.mp h with h | h
  case inr => exact ggL_isFault_X6_fault_c3 w h
  rcases List.mem_append.mp h with h | h
  · exact ggL_isFault_X6_fault_c1 w h
  exact ggL_isFault_X6_fault_c2 w h
set_option maxRecDepth 20000 in
theorem gL_isFault_X6_fault : GoodIn wsL_isFault (wsV RL 99 RX6 yX6_fault wsX6_fault) := goodIn_app (goodIn_of _ (by decide +kernel)) ggL_isFault_X6_fault
set_option maxRecDepth 20000 in
theorem ggL_refusesStrings_X6_tune_c0 : GoodIn wsL_refusesStrings [.code yX6_tune cX6_tune 4 (some .int)] := goodIn_r _ [6] (by decide +kernel) (by decide +kernel)
set_option maxRecDepth 20000 in
theorem ggL_refusesStrings_X6_tune_c1 : GoodIn wsL_refusesStrings wsX6_tune_r1 := goodIn_r _ [7, 8, 9, 10, 11, 12, 13, 5, 14, 15, 16, 17, 18, 19, 20, 21, 22, 23, 24, 25, 26, 27, 28, 29] (by decide +kernel) (by decide +kernel)
set_option maxRecDepth 20000 in
theorem ggL_refusesStrings_X6_tune_c2 : GoodIn wsL_refusesStrings wsX6_tune_r2 := goodIn_r _ [30, 31, 32, 33, 34, 35, 36, 37, 38, 39, 40, 41, 42, 43, 44, 45, 46, 47, 48, 49, 50, 51, 52, 53] (by decide +kernel) (by decide +kernel)
set_option maxRecDepth 20000 in
theorem ggL_refusesStrings_X6_tune_c3 : GoodIn wsL_refusesStrings wsX6_tune_r3 := goodIn_r _ [54, 55, 56, 57, 58, 59, 60, 61, 62, 63, 64, 65, 66, 67, 68, 69, 70, 71, 72, 73, 74, 75, 76] (by decide +kernel) (by decide +kernel)
set_option maxRecDepth 20000 in
theorem ggL_refusesStrings_X6_tune_c4 : GoodIn wsL_refusesStrings wsX60 := goodIn_r _ [297, 298, 299] (by decide +kernel) (by decide +kernel)
set_option maxRecDepth 20000 in
theorem ggL_refusesStrings_X6_tune_c5 : GoodIn wsL_refusesStrings wsX40 := goodIn_r _ [300, 301, 302, 303, 304, 305] (by decide +kernel) (by decide +kernel)
set_option maxRecDepth 20000 in
theorem ggL_refusesStrings_X6_tune_c6 : GoodIn wsL_refusesStrings wsX50 := goodIn_r _ [306, 307, 308, 309, 310, 311, 312] (by decide +kernel) (by decide +kernel)
set_option maxRecDepth 20000 in
theorem ggL_refusesStrings_X6_tune_c7 : GoodIn wsL_refusesStrings wsX00 := goodIn_r _ [313, 314, 315] (by decide +kernel) (by decide +kernel)
set_option maxRecDepth 20000 in
theorem ggL_refusesStrings_X6_tune_c8 : GoodIn wsL_refusesStrings wsX10 := goodIn_r _ [316, 317, 318, 319] (by decide +kernel) (by decide +kernel)
set_option maxRecDepth 20000 in
theorem ggL_refusesStrings_X6_tune_c9 : GoodIn wsL_refusesStrings wsX20 := goodIn_r _ [320, 321, 322] (by decide +kernel) (by decide +kernel)
theorem ggL_refusesStrings_X6_tune : GoodIn wsL_refusesStrings wsX6_tune := by
  intro w h
  rcases List.mem_cons.mp h with h | h
  · exact ggL_refusesStrings_X6_tune_c0 w (List.mem_singleton.mpr h)
  rcases List.mem_append.mp h with h | h
  case inr => exact ggL_refusesStrings_X6_tune_c9 w h
  rcases List.mem_append.mp h with h | h
  case inr => exact ggL_refusesStrings_X6_tune_c8 w h
  rcases List.mem_append.mp h with h | h
  case inr => exact ggL_refusesStrings_X6_tune_c7 w h
  rcases List.mem_append.mp h with h | h
  case inr => exact ggL_refusesStrings_X6_tune_c6 w h
  rcases List.mem_append.mp h with h | h
  case inr => exact ggL_refusesStrings_X6_tune_c5 w h
  rcases List.mem_append.mp h with h | h
  case inr => exact ggL_refusesStrings_X6_tune_c4 w h
  rcases List.mem_append.mp h with h | h
  · exact ggL_refusesStrings_X6_tune_c1 w h
  rcases List.mem_append.mp h with h | h
  · exact ggL_refusesStrings_X6_tune_c2 w h
  exact ggL_refusesStrings_X6_tune_c3 w h
set_option maxRecDepth 20000 in
theorem gL_refusesStrings_X6_tune : GoodIn wsL_refusesStrings (wsV RL 39 RX6 yX6_tune wsX6_tune) := goodIn_app (goodIn_of _ (by decide +kernel)) ggL_refusesStrings_X6_tune
