set_option maxRecDepth 20000 in
theorem li_1 : ∀ w ∈ wsL_law_r1, w ∈ lw_tbl := by
  intro w h
  have h : w ∈ ([Cond.classLink RL 14 RX6, Cond.instantiable RX6 3, Cond.initialized RX6, Cond.arrayClass .long, Cond.constant RL 210 (9000000), Cond.methodLink RL 196 yL_texts, Cond.static yL_texts, Cond.initialized RL] ++ ([Cond.code yL_texts cL_texts 2 (some .boolean)] ++ [Cond.constantLong RL 116 (53026473718075), Cond.constantLong RL 122 (57424520229179), Cond.constantLong RL 124 (53026540826939), Cond.constantLong RL 126 (53026524049723), Cond.constantLong RL 128 (3475143058628030512), Cond.constantLong RL 130 (12603), Cond.constantLong RL 132 (53026473717819), Cond.constantLong RL 134 (3475142981587054641), Cond.constantLong RL 136 (59), Cond.constantLong RL 138 (3475142981587054640), Cond.constantLong RL 140 (12347), Cond.constantLong RL 142 (3475142981586726971), Cond.constantLong RL 144 (3475142981586728240), Cond.constantLong RL 146 (13574777271823163), Cond.constantLong RL 148 (3475142981586727216)])) := h
  rcases List.mem_append.mp h with h | h
  · exact (goodIn_p [Cond.classLink RL 14 RX6, Cond.instantiable RX6 3, Cond.initialized RX6, Cond.arrayClass .long, Cond.constant RL 210 (9000000), Cond.methodLink RL 196 yL_texts, Cond.static yL_texts, Cond.initialized RL] [] (by decide +kernel) (by decide +kernel) w h).1
  rcases List.mem_append.mp h with h | h
  · obtain rfl := List.mem_singleton.mp h; exact List.mem_of_getElem? (i := 647) rfl
  exact (goodIn_p [Cond.constantLong RL 116 (53026473718075), Cond.constantLong RL 122 (57424520229179), Cond.constantLong RL 124 (53026540826939), Cond.constantLong RL 126 (53026524049723), Cond.constantLong RL 128 (3475143058628030512), Cond.constantLong RL 130 (12603), Cond.constantLong RL 132 (53026473717819), Cond.constantLong RL 134 (3475142981587054641), Cond.constantLong RL 136 (59), Cond.constantLong RL 138 (3475142981587054640), Cond.constantLong RL 140 (12347), Cond.constantLong RL 142 (3475142981586726971), Cond.constantLong RL 144 (3475142981586728240), Cond.constantLong RL 146 (13574777271823163), Cond.constantLong RL 148 (3475142981586727216)] [] (by decide +kernel) (by decide +kernel) w h).1
set_option maxRecDepth 20000 in
theorem li_2 : ∀ w ∈ wsL_law_r2, w ∈ lw_tbl := fun w h => (goodIn_p wsL_law_r2 [21, 24] (by decide +kernel) (by decide +kernel) w h).1
set_option maxRecDepth 20000 in
theorem li_3 : ∀ w ∈ wsL_law_r3, w ∈ lw_tbl := fun w h => (goodIn_p wsL_law_r3 [29] (by decide +kernel) (by decide +kernel) w h).1
set_option maxRecDepth 20000 in
theorem li_4 : ∀ w ∈ wsL_law_r4, w ∈ lw_tbl := fun w h => (goodIn_p wsL_law_r4 [35, 56] (by decide +kernel) (by decide +kernel) w h).1
set_option maxRecDepth 20000 in
theorem li_5 : ∀ w ∈ wsL_law_r5, w ∈ lw_tbl := fun w h => (goodIn_p wsL_law_r5 [97, 139, 159, 210, 213] (by decide +kernel) (by decide +kernel) w h).1
set_option maxRecDepth 20000 in
theorem li_6 : ∀ w ∈ wsL_law_r6, w ∈ lw_tbl := fun w h => (goodIn_p wsL_law_r6 [217, 221, 225, 230, 234] (by decide +kernel) (by decide +kernel) w h).1
set_option maxRecDepth 20000 in
theorem li_7 : ∀ w ∈ wsL_law_r7, w ∈ lw_tbl := fun w h => (goodIn_p wsL_law_r7 [238, 242, 249, 254] (by decide +kernel) (by decide +kernel) w h).1
set_option maxRecDepth 20000 in
theorem li_8 : ∀ w ∈ wsL_law_r8, w ∈ lw_tbl := fun w h => (goodIn_p wsL_law_r8 [260, 264, 268, 272, 276] (by decide +kernel) (by decide +kernel) w h).1
set_option maxRecDepth 20000 in
theorem li_9 : ∀ w ∈ wsL_law_r9, w ∈ lw_tbl := fun w h => (goodIn_p wsL_law_r9 [280, 284, 287, 292, 296, 300] (by decide +kernel) (by decide +kernel) w h).1
set_option maxRecDepth 20000 in
theorem li_10 : ∀ w ∈ wsL_law_r10, w ∈ lw_tbl := fun w h => (goodIn_p wsL_law_r10 [651, 621, 625] (by decide +kernel) (by decide +kernel) w h).1
set_option maxRecDepth 20000 in
theorem li_11 : ∀ w ∈ wsL_law_r11, w ∈ lw_tbl := fun w h => (goodIn_p wsL_law_r11 [629, 633, 637, 339, 642, 352] (by decide +kernel) (by decide +kernel) w h).1
set_option maxRecDepth 20000 in
theorem li_12 : ∀ w ∈ wsL_law_r12, w ∈ lw_tbl := fun w h => (goodIn_p wsL_law_r12 [371, 375, 386, 379, 356] (by decide +kernel) (by decide +kernel) w h).1
set_option maxRecDepth 20000 in
theorem li_13 : ∀ w ∈ wsL_law_r13, w ∈ lw_tbl := fun w h => (goodIn_p wsL_law_r13 [383, 390, 394, 398, 402, 443] (by decide +kernel) (by decide +kernel) w h).1
set_option maxRecDepth 20000 in
theorem li_14 : ∀ w ∈ wsL_law_r14, w ∈ lw_tbl := fun w h => (goodIn_p wsL_law_r14 [447, 451, 481, 456] (by decide +kernel) (by decide +kernel) w h).1
set_option maxRecDepth 20000 in
theorem li_15 : ∀ w ∈ wsL_law_r15, w ∈ lw_tbl := fun w h => (goodIn_p wsL_law_r15 [406, 410, 415, 418, 485] (by decide +kernel) (by decide +kernel) w h).1
set_option maxRecDepth 20000 in
theorem li_16 : ∀ w ∈ wsL_law_r16, w ∈ lw_tbl := by
  intro w h
  have h : w ∈ ([Cond.code yX5_buzzes cX5_buzzes 2 (some .boolean), Cond.methodLink RX6 219 yX5_plucksInAll, Cond.instanceMethod yX5_plucksInAll, Cond.selects RX5 yX5_plucksInAll yX5_plucksInAll, Cond.code yX5_plucksInAll cX5_plucksInAll 3 (some .int), Cond.methodLink RL 118 yL_isFault, Cond.static yL_isFault] ++ ([Cond.code yL_isFault cL_isFault 7 (some .boolean)] ++ ([Cond.methodLink RL 104 yX6_clearText, Cond.instanceMethod yX6_clearText, Cond.selects RX6 yX6_clearText yX6_clearText, Cond.code yX6_clearText cX6_clearText 2 (some .int), Cond.methodLink RL 108 yL_types, Cond.static yL_types] ++ ([Cond.code yL_types cL_types 5 none] ++ [Cond.constantLong RL 102 (255), Cond.methodLink RL 96 yX6_type, Cond.instanceMethod yX6_type, Cond.selects RX6 yX6_type yX6_type, Cond.code yX6_type cX6_type 2 (some .int), Cond.methodLink RX6 232 yX3_append, Cond.instanceMethod yX3_append, Cond.selects RX3 yX3_append yX3_append, Cond.code yX3_append cX3_append 2 none])))) := h
  rcases List.mem_append.mp h with h | h
  · exact (goodIn_p [Cond.code yX5_buzzes cX5_buzzes 2 (some .boolean), Cond.methodLink RX6 219 yX5_plucksInAll, Cond.instanceMethod yX5_plucksInAll, Cond.selects RX5 yX5_plucksInAll yX5_plucksInAll, Cond.code yX5_plucksInAll cX5_plucksInAll 3 (some .int), Cond.methodLink RL 118 yL_isFault, Cond.static yL_isFault] [489, 493] (by decide +kernel) (by decide +kernel) w h).1
  rcases List.mem_append.mp h with h | h
  · obtain rfl := List.mem_singleton.mp h; exact List.mem_of_getElem? (i := 656) rfl
  rcases List.mem_append.mp h with h | h
  · exact (goodIn_p [Cond.methodLink RL 104 yX6_clearText, Cond.instanceMethod yX6_clearText, Cond.selects RX6 yX6_clearText yX6_clearText, Cond.code yX6_clearText cX6_clearText 2 (some .int), Cond.methodLink RL 108 yL_types, Cond.static yL_types] [660] (by decide +kernel) (by decide +kernel) w h).1
  rcases List.mem_append.mp h with h | h
  · obtain rfl := List.mem_singleton.mp h; exact List.mem_of_getElem? (i := 663) rfl
  exact (goodIn_p [Cond.constantLong RL 102 (255), Cond.methodLink RL 96 yX6_type, Cond.instanceMethod yX6_type, Cond.selects RX6 yX6_type yX6_type, Cond.code yX6_type cX6_type 2 (some .int), Cond.methodLink RX6 232 yX3_append, Cond.instanceMethod yX3_append, Cond.selects RX3 yX3_append yX3_append, Cond.code yX3_append cX3_append 2 none] [609, 613] (by decide +kernel) (by decide +kernel) w h).1
set_option maxRecDepth 20000 in
theorem li_17 : ∀ w ∈ wsL_law_r17, w ∈ lw_tbl := fun w h => (goodIn_p wsL_law_r17 [617, 530, 534, 538, 542] (by decide +kernel) (by decide +kernel) w h).1
set_option maxRecDepth 20000 in
theorem li_18 : ∀ w ∈ wsL_law_r18, w ∈ lw_tbl := fun w h => (goodIn_p wsL_law_r18 [546, 501, 507, 315] (by decide +kernel) (by decide +kernel) w h).1
set_option maxRecDepth 20000 in
theorem li_19 : ∀ w ∈ wsL_law_r19, w ∈ lw_tbl := fun w h => (goodIn_p wsL_law_r19 [320, 324, 327, 331, 461] (by decide +kernel) (by decide +kernel) w h).1
set_option maxRecDepth 20000 in
theorem li_20 : ∀ w ∈ wsL_law_r20, w ∈ lw_tbl := by
  intro w h
  have h : w ∈ ([Cond.code yX0_giveBack cX0_giveBack 3 none, Cond.methodLink RL 93 yX6_run, Cond.instanceMethod yX6_run, Cond.selects RX6 yX6_run yX6_run, Cond.code yX6_run cX6_run 2 (some .int), Cond.constant RX6 180 (100000), Cond.methodLink RL 200 yL_known, Cond.static yL_known] ++ ([Cond.code yL_known cL_known 1 (some .boolean)] ++ ([Cond.constant RL 188 (50000), Cond.constant RL 189 (93908), Cond.constant RL 190 (49499), Cond.constant RL 191 (500000), Cond.constant RL 192 (166666), Cond.constant RL 193 (45454), Cond.constant RL 194 (1334000), Cond.constant RL 195 (1780000), Cond.methodLink RL 185 yL_refused, Cond.static yL_refused] ++ ([Cond.code yL_refused cL_refused 6 (some .boolean)] ++ [Cond.constant RL 85 (1000001), Cond.constant RL 86 (100001), Cond.methodLink RL 71 yL_state, Cond.static yL_state])))) := h
  rcases List.mem_append.mp h with h | h
  · exact (goodIn_p [Cond.code yX0_giveBack cX0_giveBack 3 none, Cond.methodLink RL 93 yX6_run, Cond.instanceMethod yX6_run, Cond.selects RX6 yX6_run yX6_run, Cond.code yX6_run cX6_run 2 (some .int), Cond.constant RX6 180 (100000), Cond.methodLink RL 200 yL_known, Cond.static yL_known] [465, 438] (by decide +kernel) (by decide +kernel) w h).1
  rcases List.mem_append.mp h with h | h
  · obtain rfl := List.mem_singleton.mp h; exact List.mem_of_getElem? (i := 697) rfl
  rcases List.mem_append.mp h with h | h
  · exact (goodIn_p [Cond.constant RL 188 (50000), Cond.constant RL 189 (93908), Cond.constant RL 190 (49499), Cond.constant RL 191 (500000), Cond.constant RL 192 (166666), Cond.constant RL 193 (45454), Cond.constant RL 194 (1334000), Cond.constant RL 195 (1780000), Cond.methodLink RL 185 yL_refused, Cond.static yL_refused] [] (by decide +kernel) (by decide +kernel) w h).1
  rcases List.mem_append.mp h with h | h
  · obtain rfl := List.mem_singleton.mp h; exact List.mem_of_getElem? (i := 549) rfl
  exact (goodIn_p [Cond.constant RL 85 (1000001), Cond.constant RL 86 (100001), Cond.methodLink RL 71 yL_state, Cond.static yL_state] [] (by decide +kernel) (by decide +kernel) w h).1
set_option maxRecDepth 20000 in
theorem li_21 : ∀ w ∈ wsL_law_r21, w ∈ lw_tbl := by
  intro w h
  have h : w ∈ ([Cond.code yL_state cL_state 4 (some .long)] ++ ([Cond.constantLong RL 11 (8), Cond.methodLink RL 19 yL_mixed, Cond.static yL_mixed] ++ ([Cond.code yL_mixed cL_mixed 4 (some .long)] ++ [Cond.constantLong RL 9 (31), Cond.methodLink RL 32 yX6_modeInfo, Cond.instanceMethod yX6_modeInfo, Cond.selects RX6 yX6_modeInfo yX6_modeInfo, Cond.code yX6_modeInfo cX6_modeInfo 4 (some .int), Cond.methodLink RX6 149 yX6_isMode, Cond.static yX6_isMode, Cond.code yX6_isMode cX6_isMode 1 (some .boolean), Cond.methodLink RX6 152 yX5_amplitudeOf, Cond.methodLink RX6 155 yX5_pitchOf, Cond.instanceMethod yX5_pitchOf, Cond.selects RX5 yX5_pitchOf yX5_pitchOf, Cond.code yX5_pitchOf cX5_pitchOf 4 (some .int), Cond.methodLink RX6 158 yX5_wholeNodes, Cond.instanceMethod yX5_wholeNodes, Cond.selects RX5 yX5_wholeNodes yX5_wholeNodes, Cond.code yX5_wholeNodes cX5_wholeNodes 3 (some .int), Cond.static yX6_greatestCommonDivisor, Cond.code yX6_greatestCommonDivisor cX6_greatestCommonDivisor 6 (some .int)]))) := h
  rcases List.mem_append.mp h with h | h
  · obtain rfl := List.mem_singleton.mp h; exact List.mem_of_getElem? (i := 476) rfl
  rcases List.mem_append.mp h with h | h
  · exact (goodIn_p [Cond.constantLong RL 11 (8), Cond.methodLink RL 19 yL_mixed, Cond.static yL_mixed] [] (by decide +kernel) (by decide +kernel) w h).1
  rcases List.mem_append.mp h with h | h
  · obtain rfl := List.mem_singleton.mp h; exact List.mem_of_getElem? (i := 496) rfl
  exact (goodIn_p [Cond.constantLong RL 9 (31), Cond.methodLink RL 32 yX6_modeInfo, Cond.instanceMethod yX6_modeInfo, Cond.selects RX6 yX6_modeInfo yX6_modeInfo, Cond.code yX6_modeInfo cX6_modeInfo 4 (some .int), Cond.methodLink RX6 149 yX6_isMode, Cond.static yX6_isMode, Cond.code yX6_isMode cX6_isMode 1 (some .boolean), Cond.methodLink RX6 152 yX5_amplitudeOf, Cond.methodLink RX6 155 yX5_pitchOf, Cond.instanceMethod yX5_pitchOf, Cond.selects RX5 yX5_pitchOf yX5_pitchOf, Cond.code yX5_pitchOf cX5_pitchOf 4 (some .int), Cond.methodLink RX6 158 yX5_wholeNodes, Cond.instanceMethod yX5_wholeNodes, Cond.selects RX5 yX5_wholeNodes yX5_wholeNodes, Cond.code yX5_wholeNodes cX5_wholeNodes 3 (some .int), Cond.static yX6_greatestCommonDivisor, Cond.code yX6_greatestCommonDivisor cX6_greatestCommonDivisor 6 (some .int)] [511, 514, 519, 523, 526] (by decide +kernel) (by decide +kernel) w h).1
set_option maxRecDepth 20000 in
theorem li_22 : ∀ w ∈ wsL_law_r22, w ∈ lw_tbl := by
  intro w h
  have h : w ∈ ([Cond.methodLink RL 75 yL_refusesStrings, Cond.static yL_refusesStrings] ++ ([Cond.code yL_refusesStrings cL_refusesStrings 5 (some .boolean)] ++ [Cond.constant RL 70 (100000001), Cond.methodLink RL 39 yX6_tune, Cond.instanceMethod yX6_tune, Cond.selects RX6 yX6_tune yX6_tune, Cond.code yX6_tune cX6_tune 4 (some .int), Cond.constant RX6 97 (100000000), Cond.methodLink RL 42 yX6_press, Cond.instanceMethod yX6_press, Cond.selects RX6 yX6_press yX6_press, Cond.code yX6_press cX6_press 3 (some .int), Cond.methodLink RX6 102 yX1_isNumberOrOpen, Cond.instanceMethod yX1_isNumberOrOpen, Cond.selects RX1 yX1_isNumberOrOpen yX1_isNumberOrOpen, Cond.code yX1_isNumberOrOpen cX1_isNumberOrOpen 2 (some .boolean), Cond.methodLink RL 45 yX6_touch, Cond.instanceMethod yX6_touch, Cond.selects RX6 yX6_touch yX6_touch, Cond.code yX6_touch cX6_touch 4 (some .int), Cond.methodLink RL 48 yX6_pluck, Cond.instanceMethod yX6_pluck, Cond.selects RX6 yX6_pluck yX6_pluck])) := h
  rcases List.mem_append.mp h with h | h
  · exact (goodIn_p [Cond.methodLink RL 75 yL_refusesStrings, Cond.static yL_refusesStrings] [] (by decide +kernel) (by decide +kernel) w h).1
  rcases List.mem_append.mp h with h | h
  · obtain rfl := List.mem_singleton.mp h; exact List.mem_of_getElem? (i := 552) rfl
  exact (goodIn_p [Cond.constant RL 70 (100000001), Cond.methodLink RL 39 yX6_tune, Cond.instanceMethod yX6_tune, Cond.selects RX6 yX6_tune yX6_tune, Cond.code yX6_tune cX6_tune 4 (some .int), Cond.constant RX6 97 (100000000), Cond.methodLink RL 42 yX6_press, Cond.instanceMethod yX6_press, Cond.selects RX6 yX6_press yX6_press, Cond.code yX6_press cX6_press 3 (some .int), Cond.methodLink RX6 102 yX1_isNumberOrOpen, Cond.instanceMethod yX1_isNumberOrOpen, Cond.selects RX1 yX1_isNumberOrOpen yX1_isNumberOrOpen, Cond.code yX1_isNumberOrOpen cX1_isNumberOrOpen 2 (some .boolean), Cond.methodLink RL 45 yX6_touch, Cond.instanceMethod yX6_touch, Cond.selects RX6 yX6_touch yX6_touch, Cond.code yX6_touch cX6_touch 4 (some .int), Cond.methodLink RL 48 yX6_pluck, Cond.instanceMethod yX6_pluck, Cond.selects RX6 yX6_pluck yX6_pluck] [336, 344, 348, 360] (by decide +kernel) (by decide +kernel) w h).1
set_option maxRecDepth 20000 in
theorem li_23 : ∀ w ∈ wsL_law_r23, w ∈ lw_tbl := fun w h => (goodIn_p wsL_law_r23 [364, 367, 425, 556, 561, 565] (by decide +kernel) (by decide +kernel) w h).1
set_option maxRecDepth 20000 in
theorem li_24 : ∀ w ∈ wsL_law_r24, w ∈ lw_tbl := fun w h => (goodIn_p wsL_law_r24 [569, 573, 577, 581, 585, 589] (by decide +kernel) (by decide +kernel) w h).1
set_option maxRecDepth 20000 in
theorem li_25 : ∀ w ∈ wsL_law_r25, w ∈ lw_tbl := fun w h => (goodIn_p wsL_law_r25 [593, 430, 304, 310, 601] (by decide +kernel) (by decide +kernel) w h).1
set_option maxRecDepth 20000 in
theorem li_26 : ∀ w ∈ wsL_law_r26, w ∈ lw_tbl := by
  intro w h
  have h : w ∈ ([Cond.methodLink RX6 91 yX1_mostHeightFor, Cond.instanceMethod yX1_mostHeightFor, Cond.selects RX1 yX1_mostHeightFor yX1_mostHeightFor, Cond.code yX1_mostHeightFor cX1_mostHeightFor 4 (some .int), Cond.methodLink RL 203 yL_take, Cond.static yL_take] ++ ([Cond.code yL_take cL_take 2 (some .int)] ++ ([Cond.constant RL 8 (2654435), Cond.methodLink RL 207 yL_part, Cond.static yL_part] ++ ([Cond.code yL_part cL_part 2 (some .int)] ++ [Cond.constant RL 7 (2147483647)])))) := h
  rcases List.mem_append.mp h with h | h
  · exact (goodIn_p [Cond.methodLink RX6 91 yX1_mostHeightFor, Cond.instanceMethod yX1_mostHeightFor, Cond.selects RX1 yX1_mostHeightFor yX1_mostHeightFor, Cond.code yX1_mostHeightFor cX1_mostHeightFor 4 (some .int), Cond.methodLink RL 203 yL_take, Cond.static yL_take] [605] (by decide +kernel) (by decide +kernel) w h).1
  rcases List.mem_append.mp h with h | h
  · obtain rfl := List.mem_singleton.mp h; exact List.mem_of_getElem? (i := 472) rfl
  rcases List.mem_append.mp h with h | h
  · exact (goodIn_p [Cond.constant RL 8 (2654435), Cond.methodLink RL 207 yL_part, Cond.static yL_part] [] (by decide +kernel) (by decide +kernel) w h).1
  rcases List.mem_append.mp h with h | h
  · obtain rfl := List.mem_singleton.mp h; exact List.mem_of_getElem? (i := 468) rfl
  exact (goodIn_p [Cond.constant RL 7 (2147483647)] [] (by decide +kernel) (by decide +kernel) w h).1
set_option maxRecDepth 20000 in
theorem in_wsX60 : ∀ w ∈ wsX60, w ∈ lw_tbl := by decide +kernel
set_option maxRecDepth 20000 in
theorem in_wsX40 : ∀ w ∈ wsX40, w ∈ lw_tbl := by decide +kernel
set_option maxRecDepth 20000 in
theorem in_wsX00 : ∀ w ∈ wsX00, w ∈ lw_tbl := by decide +kernel
set_option maxRecDepth 20000 in
theorem in_wsX30 : ∀ w ∈ wsX30, w ∈ lw_tbl := by decide +kernel
set_option maxRecDepth 20000 in
theorem in_wsX10 : ∀ w ∈ wsX10, w ∈ lw_tbl := by decide +kernel
set_option maxRecDepth 20000 in
theorem in_wsX50 : ∀ w ∈ wsX50, w ∈ lw_tbl := by decide +kernel
set_option maxRecDepth 20000 in
theorem in_wsX20 : ∀ w ∈ wsX20, w ∈ lw_tbl := by decide +kernel
theorem wsL_law_in : ∀ w ∈ wsL_law, w ∈ lw_tbl := by
  intro w h
  rcases List.mem_append.mp h with h | h
  case inr => exact absurd h List.not_mem_nil
  rcases List.mem_append.mp h with h | h
  case inr => exact in_wsX20 w h
  rcases List.mem_append.mp h with h | h
  case inr => exact in_wsX50 w h
  rcases List.mem_append.mp h with h | h
  case inr => exact in_wsX10 w h
  rcases List.mem_append.mp h with h | h
  case inr => exact in_wsX30 w h
  rcases List.mem_append.mp h with h | h
  case inr => exact in_wsX00 w h
  rcases List.mem_append.mp h with h | h
  case inr => exact in_wsX40 w h
  rcases List.mem_append.mp h with h | h
  case inr => exact in_wsX60 w h
  rcases List.mem_append.mp h with h | h
  · exact li_1 w h
  rcases List.mem_append.mp h with h | h
  · exact li_2 w h
  rcases List.mem_append.mp h with h | h
  · exact li_3 w h
  rcases List.mem_append.mp h with h | h
  · exact li_4 w h
  rcases List.mem_append.mp h with h | h
  · exact li_5 w h
  rcases List.mem_append.mp h with h | h
  · exact li_6 w h
  rcases List.mem_append.mp h with h | h
  · exact li_7 w h
  rcases List.mem_append.mp h with h | h
  · exact li_8 w h
  rcases List.mem_append.mp h with h | h
  · exact li_9 w h
  rcases List.mem_append.mp h with h | h
  · exact li_10 w h
  rcases List.mem_append.mp h with h | h
  · exact li_11 w h
  rcases List.mem_append.mp h with h | h
  · exact li_12 w h
  rcases List.mem_append.mp h with h | h
  · exact li_13 w h
  rcases List.mem_append.mp h with h | h
  · exact li_14 w h
  rcases List.mem_append.mp h with h | h
  · exact li_15 w h
  rcases List.mem_append.mp h with h | h
  · exact li_16 w h
  rcases List.mem_append.mp h with h | h
  · exact li_17 w h
  rcases List.mem_append.mp h with h | h
  · exact li_18 w h
  rcases List.mem_append.mp h with h | h
  · exact li_19 w h
  rcases List.mem_append.mp h with h | h
  · exact li_20 w h
  rcases List.mem_append.mp h with h | h
  · exact li_21 w h
  rcases List.mem_append.mp h with h | h
  · exact li_22 w h
  rcases List.mem_append.mp h with h | h
  · exact li_23 w h
  rcases List.mem_append.mp h with h | h
  · exact li_24 w h
  rcases List.mem_append.mp h with h | h
  · exact li_25 w h
  exact li_26 w h
