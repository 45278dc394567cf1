theorem iwX6_count_X6_c_X6_count : ∀ w ∈ wsX60, w ∈ wsX6_count := by decide +kernel
theorem iwX6_count_X4_c_X6_count : ∀ w ∈ wsX40, w ∈ wsX6_count := by decide +kernel
theorem iwX6_count_X1_c_X6_count : ∀ w ∈ wsX10, w ∈ wsX6_count := by decide +kernel
theorem iwX6_count_X2_c_X6_count : ∀ w ∈ wsX20, w ∈ wsX6_count := by decide +kernel
theorem iwX6_count_X0_c_X6_count : ∀ w ∈ wsX00, w ∈ wsX6_count := by decide +kernel
theorem iwX6_count_X3_c_X6_count : ∀ w ∈ wsX30, w ∈ wsX6_count := by decide +kernel
set_option maxHeartbeats 8000000 in
set_option maxRecDepth 100000 in
theorem c_X6_count (l : Launch) (E : zE) (fs sc hi rw hz old ch len pl fp : Nat) (a : Int32) (adA adB adC adD ad : Nat → Nat) (X : Nat → Nat → Nat) (st fr fo ti to : Int32) (Ch : Nat → Nat) (hn : X 13 0 ≤ 12) (hPb : ∀ i, i < 12 → X 0 i ≤ 2400) (hHb : ∀ i, i < 12 → X 1 i ≤ 2000) (hprn : ∀ i, i < 4 → X 4 i ≤ X 13 0) (hst : ∀ i, i < 4 → X 8 i ≤ 2400) (hson : ∀ i, i < 4 → X 7 i ≤ X 13 0) (ham : ∀ i, i < 48 → X 9 i ≤ 1000000) (hse4 : X 12 4 ≤ 100000) (hpl4 : ∀ i, i < 4 → X 6 i ≤ 100000000) : zR l yX6_count wsX6_count ({ frames := 4, cells := 0, slots := 0, locals := 88 }) E [.ref fs, .int a] [(fs, .inr (6, [.ref (ad 0), .ref hi, .ref sc])), ((ad 0), .inr (4, [.ref (ad 1), .ref (ad 5), .ref (ad 13), .ref (ad 16), .int (nI (X 13 2)), .int (nI (X 13 3))])), ((ad 1), .inr (1, [.int (nI (X 13 0)), .ref (ad 2), .ref (ad 3), .ref (ad 4)])), ((ad 2), .inl (E.2.1, 12, .inl (fun zz => nI ((X 0) zz)))), ((ad 3), .inl (E.2.1, 12, .inl (fun zz => nI ((X 1) zz)))), ((ad 4), .inl (E.2.1, 12, .inl (fun zz => nI ((X 2) zz)))), ((ad 5), .inr (5, [.ref (ad 6), .ref (ad 7), .ref (ad 8), .ref (ad 9), .ref (ad 10), .ref (ad 11), .ref (ad 12)])), ((ad 6), .inl (E.2.1, 4, .inl (fun zz => nI ((X 3) zz)))), ((ad 7), .inl (E.2.1, 4, .inl (fun zz => nI ((X 4) zz)))), ((ad 8), .inl (E.2.1, 4, .inl (fun zz => nI ((X 5) zz)))), ((ad 9), .inl (E.2.1, 4, .inl (fun zz => nI ((X 6) zz)))), ((ad 10), .inl (E.2.1, 4, .inl (fun zz => nI ((X 7) zz)))), ((ad 11), .inl (E.2.1, 4, .inl (fun zz => nI ((X 8) zz)))), ((ad 12), .inl (E.2.1, 48, .inl (fun zz => nI ((X 9) zz)))), ((ad 13), .inr (2, [.int (nI (X 13 1)), .ref (ad 14), .ref (ad 15)])), ((ad 14), .inl (E.2.1, 52, .inl (fun zz => nI ((X 10) zz)))), ((ad 15), .inl (E.2.1, 52, .inl (fun zz => nI ((X 11) zz)))), ((ad 16), .inl (E.2.1, 5, .inl (fun zz => nI ((X 12) zz)))), (hi, .inr (0, [.int (nI hz), .int (nI old), .ref rw])), (rw, .inl (E.2.2.2, 4, .inr (.inr (.inr (.inr (rr4 (adA 0) (adB 0) (adC 0) (adD 0))))))), (sc, .inr (3, [.int (nI len), .ref ch, .int st, .int fr, .int fo, .int ti, .int (nI pl), .int to, .int (nI fp)])), (ch, .inl (E.2.2.1, 80, .inl (fun zz => nI (Ch zz))))] (fun r => (r = (-1) ∧ (¬ (nI 0 ≤ a ∧ a ≤ nI 13))) ∨ (∃ (k : Nat) (r9 : Int32), r = r9 ∧ (a = nI k ∧ k ≤ 13 ∧ r9 = ctX X hz len (bzL (X 7) (X 4) 4) (sumP (X 6) 4) k))) := by
  refine zR.start (own := RX6) rfl (by decide +kernel) rfl (Nat.le_of_ble_eq_true rfl) (fun _ _ => rfl) ?_
  intro pZ eZ sZ mZ argsZ belowZ methZ cZ QZ hF hret hP hG ls hl
  obtain ⟨hx, hb, hml, hown, hts⟩ := id hF
  have hl : lv_has ls 2 [(0, .ref fs), (1, .int a)] := hl
  refine lv_iload_n hx hb dX6_count_0 rfl (lv_at hl 1 rfl) ?_
  rcases z_tab a 13 (by decide) with c1 | ⟨kZ, c1, rfl⟩
  · -- 1 out
    refine lv_tableOut (tgt := 169) hx hb dX6_count_1 c1 (by decide) ?_
    refine lv_iconst (v := (-1)) hx hb dX6_count_169 (by decide) ?_
    exact hret _ _ _ dX6_count_170 (Or.inl ⟨rfl, tab_o 13 (by omega) c1⟩)
  · -- 1 in
    obtain hk | hk | hk | hk | hk | hk | hk | hk | hk | hk | hk | hk | hk | hk : kZ = 0 ∨ kZ = 1 ∨ kZ = 2 ∨ kZ = 3 ∨ kZ = 4 ∨ kZ = 5 ∨ kZ = 6 ∨ kZ = 7 ∨ kZ = 8 ∨ kZ = 9 ∨ kZ = 10 ∨ kZ = 11 ∨ kZ = 12 ∨ kZ = 13 := by omega
    · -- 1 case 0
      subst hk
      refine lv_tableIn (tgt := 72) (off := 71) hx hb dX6_count_1 (by decide) (by decide) (by decide) (by decide) ?_
      have hl : lv_has ls 2 [(0, .ref fs), (1, .int (nI 0))] := hl
      refine lv_aload_n hx hb dX6_count_72 rfl (lv_at hl 0 rfl) ?_
      refine va_get (D := E.1) (ci := 6) (v := .ref (ad 0)) (C := RX6) (T := TX6) (N := 3) hx hb hts iwX6_count_X6_c_X6_count hown hG.1 hP 0 rfl rfl 0 (by decide) (hts (.fieldLink RX6 10 "FrettedStrings" "now" "LFrettedStrings$State;") (by decide +kernel)) (fun _ h9 => h9) rfl dX6_count_73 ?_
      refine va_get (D := E.1) (ci := 4) (v := .ref (ad 1)) (C := RX4) (T := TX4) (N := 6) hx hb hts iwX6_count_X4_c_X6_count hown hG.1 hP 1 rfl rfl 0 (by decide) (hts (.fieldLink RX6 34 "FrettedStrings$State" "neck" "LFrettedStrings$Neck;") (by decide +kernel)) (fun _ h9 => h9) rfl dX6_count_76 ?_
      refine va_get (D := E.1) (ci := 1) (v := .int (nI (X 13 0))) (C := RX1) (T := TX1) (N := 4) hx hb hts iwX6_count_X1_c_X6_count hown hG.1 hP 2 rfl rfl 0 (by decide) (hts (.fieldLink RX6 44 "FrettedStrings$Neck" "frets" "I") (by decide +kernel)) (fun _ h9 => h9) rfl dX6_count_79 ?_
      exact hret _ _ _ dX6_count_82 (Or.inr (⟨0, (nI (X 13 0)), by first | rfl | (congr 1; omega), ⟨rfl, by omega, by unfold ctX; (repeat' split) <;> first | rfl | (exfalso; omega)⟩⟩))
    · -- 1 case 1
      subst hk
      refine lv_tableIn (tgt := 83) (off := 82) hx hb dX6_count_1 (by decide) (by decide) (by decide) (by decide) ?_
      have hl : lv_has ls 2 [(0, .ref fs), (1, .int (nI 1))] := hl
      refine lv_aload_n hx hb dX6_count_83 rfl (lv_at hl 0 rfl) ?_
      refine va_get (D := E.1) (ci := 6) (v := .ref (ad 0)) (C := RX6) (T := TX6) (N := 3) hx hb hts iwX6_count_X6_c_X6_count hown hG.1 hP 0 rfl rfl 0 (by decide) (hts (.fieldLink RX6 10 "FrettedStrings" "now" "LFrettedStrings$State;") (by decide +kernel)) (fun _ h9 => h9) rfl dX6_count_84 ?_
      refine va_get (D := E.1) (ci := 4) (v := .int (nI (X 13 2))) (C := RX4) (T := TX4) (N := 6) hx hb hts iwX6_count_X4_c_X6_count hown hG.1 hP 1 rfl rfl 4 (by decide) (hts (.fieldLink RX6 177 "FrettedStrings$State" "ticks" "I") (by decide +kernel)) (fun _ h9 => h9) rfl dX6_count_87 ?_
      exact hret _ _ _ dX6_count_90 (Or.inr (⟨1, (nI (X 13 2)), by first | rfl | (congr 1; omega), ⟨rfl, by omega, by unfold ctX; (repeat' split) <;> first | rfl | (exfalso; omega)⟩⟩))
    · -- 1 case 2
      subst hk
      refine lv_tableIn (tgt := 91) (off := 90) hx hb dX6_count_1 (by decide) (by decide) (by decide) (by decide) ?_
      have hl : lv_has ls 2 [(0, .ref fs), (1, .int (nI 2))] := hl
      refine lv_aload_n hx hb dX6_count_91 rfl (lv_at hl 0 rfl) ?_
      refine va_get (D := E.1) (ci := 6) (v := .ref (ad 0)) (C := RX6) (T := TX6) (N := 3) hx hb hts iwX6_count_X6_c_X6_count hown hG.1 hP 0 rfl rfl 0 (by decide) (hts (.fieldLink RX6 10 "FrettedStrings" "now" "LFrettedStrings$State;") (by decide +kernel)) (fun _ h9 => h9) rfl dX6_count_92 ?_
      have hPc := zP_sub (w := [((ad 0), .inr (4, [.ref (ad 1), .ref (ad 5), .ref (ad 13), .ref (ad 16), .int (nI (X 13 2)), .int (nI (X 13 3))])), ((ad 5), .inr (5, [.ref (ad 6), .ref (ad 7), .ref (ad 8), .ref (ad 9), .ref (ad 10), .ref (ad 11), .ref (ad 12)])), ((ad 12), .inl (E.2.1, 48, .inl (fun zz => nI ((X 9) zz)))), ((ad 16), .inl (E.2.1, 5, .inl (fun zz => nI ((X 12) zz))))]) hP [1, 6, 13, 17] rfl
      refine z_rd (fun _ h => h) (va_runV (As := []) (rest := []) hF (c_X4_heardInAll l E (ad 0) (ad 1) (ad 5) (ad 13) (ad 16) (X 13 2) (X 13 3) (ad 6) (ad 7) (ad 8) (ad 9) (ad 10) (ad 11) (ad 12) (X 9) (X 12) (by first | assumption | omega) (by first | assumption | omega)) (cwV 0 hts gX6_count_X4_heardInAll rfl rfl rfl (by decide +kernel) ⟨Nat.le_of_ble_eq_true rfl, Nat.le_of_ble_eq_true rfl⟩) (z_preRV (va_recv hG.1 hP (ci := 4) (q0 := 1) rfl rfl) hPc hG) rfl rfl hl.1 rfl (lv_room (Nat.le_of_ble_eq_true rfl)) dX6_count_95 ⟨Nat.zero_le _, Nat.zero_le _⟩) (fun r2 hr2 => ?_)
      subst hr2
      exact hret _ _ _ dX6_count_98 (Or.inr (⟨2, (nI (hrL (X 9) ((X 12) 4) 4)), by first | rfl | (congr 1; omega), ⟨rfl, by omega, by unfold ctX; (repeat' split) <;> first | rfl | (exfalso; omega)⟩⟩))
    · -- 1 case 3
      subst hk
      refine lv_tableIn (tgt := 99) (off := 98) hx hb dX6_count_1 (by decide) (by decide) (by decide) (by decide) ?_
      have hl : lv_has ls 2 [(0, .ref fs), (1, .int (nI 3))] := hl
      refine lv_aload_n hx hb dX6_count_99 rfl (lv_at hl 0 rfl) ?_
      refine va_get (D := E.1) (ci := 6) (v := .ref (ad 0)) (C := RX6) (T := TX6) (N := 3) hx hb hts iwX6_count_X6_c_X6_count hown hG.1 hP 0 rfl rfl 0 (by decide) (hts (.fieldLink RX6 10 "FrettedStrings" "now" "LFrettedStrings$State;") (by decide +kernel)) (fun _ h9 => h9) rfl dX6_count_100 ?_
      refine va_get (D := E.1) (ci := 4) (v := .ref (ad 5)) (C := RX4) (T := TX4) (N := 6) hx hb hts iwX6_count_X4_c_X6_count hown hG.1 hP 1 rfl rfl 1 (by decide) (hts (.fieldLink RX6 76 "FrettedStrings$State" "strings" "LFrettedStrings$Strings;") (by decide +kernel)) (fun _ h9 => h9) rfl dX6_count_103 ?_
      have hPc := zP_sub (w := [((ad 5), .inr (5, [.ref (ad 6), .ref (ad 7), .ref (ad 8), .ref (ad 9), .ref (ad 10), .ref (ad 11), .ref (ad 12)])), ((ad 7), .inl (E.2.1, 4, .inl (fun zz => nI ((X 4) zz)))), ((ad 10), .inl (E.2.1, 4, .inl (fun zz => nI ((X 7) zz))))]) hP [6, 8, 11] rfl
      refine z_rd (fun _ h => h) (va_runV (As := []) (rest := []) hF (c_X5_buzzing l E (ad 5) (ad 6) (ad 7) (ad 8) (ad 9) (ad 10) (ad 11) (ad 12) (X 4) (X 7) (by first | assumption | (intro i hi; exact Nat.le_trans (hprn i hi) hn) | (intro i hi; exact Nat.le_trans (hson i hi) hn)) (by first | assumption | (intro i hi; exact Nat.le_trans (hprn i hi) hn) | (intro i hi; exact Nat.le_trans (hson i hi) hn))) (cwV 0 hts gX6_count_X5_buzzing rfl rfl rfl (by decide +kernel) ⟨Nat.le_of_ble_eq_true rfl, Nat.le_of_ble_eq_true rfl⟩) (z_preRV (va_recv hG.1 hP (ci := 5) (q0 := 6) rfl rfl) hPc hG) rfl rfl hl.1 rfl (lv_room (Nat.le_of_ble_eq_true rfl)) dX6_count_106 ⟨Nat.zero_le _, Nat.zero_le _⟩) (fun r3 hr3 => ?_)
      subst hr3
      exact hret _ _ _ dX6_count_109 (Or.inr (⟨3, (nI (bzL (X 7) (X 4) 4)), by first | rfl | (congr 1; omega), ⟨rfl, by omega, by unfold ctX; (repeat' split) <;> first | rfl | (exfalso; omega)⟩⟩))
    · -- 1 case 4
      subst hk
      refine lv_tableIn (tgt := 110) (off := 109) hx hb dX6_count_1 (by decide) (by decide) (by decide) (by decide) ?_
      have hl : lv_has ls 2 [(0, .ref fs), (1, .int (nI 4))] := hl
      refine lv_aload_n hx hb dX6_count_110 rfl (lv_at hl 0 rfl) ?_
      refine va_get (D := E.1) (ci := 6) (v := .ref (ad 0)) (C := RX6) (T := TX6) (N := 3) hx hb hts iwX6_count_X6_c_X6_count hown hG.1 hP 0 rfl rfl 0 (by decide) (hts (.fieldLink RX6 10 "FrettedStrings" "now" "LFrettedStrings$State;") (by decide +kernel)) (fun _ h9 => h9) rfl dX6_count_111 ?_
      refine va_get (D := E.1) (ci := 4) (v := .ref (ad 13)) (C := RX4) (T := TX4) (N := 6) hx hb hts iwX6_count_X4_c_X6_count hown hG.1 hP 1 rfl rfl 2 (by decide) (hts (.fieldLink RX6 198 "FrettedStrings$State" "notes" "LFrettedStrings$Notes;") (by decide +kernel)) (fun _ h9 => h9) rfl dX6_count_114 ?_
      refine va_get (D := E.1) (ci := 2) (v := .int (nI (X 13 1))) (C := RX2) (T := TX2) (N := 3) hx hb hts iwX6_count_X2_c_X6_count hown hG.1 hP 14 rfl rfl 0 (by decide) (hts (.fieldLink RX6 202 "FrettedStrings$Notes" "size" "I") (by decide +kernel)) (fun _ h9 => h9) rfl dX6_count_117 ?_
      exact hret _ _ _ dX6_count_120 (Or.inr (⟨4, (nI (X 13 1)), by first | rfl | (congr 1; omega), ⟨rfl, by omega, by unfold ctX; (repeat' split) <;> first | rfl | (exfalso; omega)⟩⟩))
    · -- 1 case 5
      subst hk
      refine lv_tableIn (tgt := 121) (off := 120) hx hb dX6_count_1 (by decide) (by decide) (by decide) (by decide) ?_
      have hl : lv_has ls 2 [(0, .ref fs), (1, .int (nI 5))] := hl
      refine lv_aload_n hx hb dX6_count_121 rfl (lv_at hl 0 rfl) ?_
      refine va_get (D := E.1) (ci := 6) (v := .ref (ad 0)) (C := RX6) (T := TX6) (N := 3) hx hb hts iwX6_count_X6_c_X6_count hown hG.1 hP 0 rfl rfl 0 (by decide) (hts (.fieldLink RX6 10 "FrettedStrings" "now" "LFrettedStrings$State;") (by decide +kernel)) (fun _ h9 => h9) rfl dX6_count_122 ?_
      refine va_get (D := E.1) (ci := 4) (v := .ref (ad 5)) (C := RX4) (T := TX4) (N := 6) hx hb hts iwX6_count_X4_c_X6_count hown hG.1 hP 1 rfl rfl 1 (by decide) (hts (.fieldLink RX6 76 "FrettedStrings$State" "strings" "LFrettedStrings$Strings;") (by decide +kernel)) (fun _ h9 => h9) rfl dX6_count_125 ?_
      have hPc := zP_sub (w := [((ad 5), .inr (5, [.ref (ad 6), .ref (ad 7), .ref (ad 8), .ref (ad 9), .ref (ad 10), .ref (ad 11), .ref (ad 12)])), ((ad 9), .inl (E.2.1, 4, .inl (fun zz => nI ((X 6) zz))))]) hP [6, 10] rfl
      refine z_rd (fun _ h => h) (va_runV (As := []) (rest := []) hF (c_X5_plucksInAll l E (ad 5) (ad 6) (ad 7) (ad 8) (ad 9) (ad 10) (ad 11) (ad 12) (X 6) ) (cwV 0 hts gX6_count_X5_plucksInAll rfl rfl rfl (by decide +kernel) ⟨Nat.le_of_ble_eq_true rfl, Nat.le_of_ble_eq_true rfl⟩) (z_preRV (va_recv hG.1 hP (ci := 5) (q0 := 6) rfl rfl) hPc hG) rfl rfl hl.1 rfl (lv_room (Nat.le_of_ble_eq_true rfl)) dX6_count_128 ⟨Nat.zero_le _, Nat.zero_le _⟩) (fun r4 hr4 => ?_)
      subst hr4
      exact hret _ _ _ dX6_count_131 (Or.inr (⟨5, (nI (sumP (X 6) 4)), by first | rfl | (congr 1; omega), ⟨rfl, by omega, by unfold ctX; (repeat' split) <;> first | rfl | (exfalso; omega)⟩⟩))
    · -- 1 case 6
      subst hk
      refine lv_tableIn (tgt := 132) (off := 131) hx hb dX6_count_1 (by decide) (by decide) (by decide) (by decide) ?_
      have hl : lv_has ls 2 [(0, .ref fs), (1, .int (nI 6))] := hl
      refine lv_aload_n hx hb dX6_count_132 rfl (lv_at hl 0 rfl) ?_
      refine va_get (D := E.1) (ci := 6) (v := .ref (ad 0)) (C := RX6) (T := TX6) (N := 3) hx hb hts iwX6_count_X6_c_X6_count hown hG.1 hP 0 rfl rfl 0 (by decide) (hts (.fieldLink RX6 10 "FrettedStrings" "now" "LFrettedStrings$State;") (by decide +kernel)) (fun _ h9 => h9) rfl dX6_count_133 ?_
      refine va_get (D := E.1) (ci := 4) (v := .int (nI (X 13 3))) (C := RX4) (T := TX4) (N := 6) hx hb hts iwX6_count_X4_c_X6_count hown hG.1 hP 1 rfl rfl 5 (by decide) (hts (.fieldLink RX6 222 "FrettedStrings$State" "lost" "I") (by decide +kernel)) (fun _ h9 => h9) rfl dX6_count_136 ?_
      exact hret _ _ _ dX6_count_139 (Or.inr (⟨6, (nI (X 13 3)), by first | rfl | (congr 1; omega), ⟨rfl, by omega, by unfold ctX; (repeat' split) <;> first | rfl | (exfalso; omega)⟩⟩))
    · -- 1 case 7
      subst hk
      refine lv_tableIn (tgt := 140) (off := 139) hx hb dX6_count_1 (by decide) (by decide) (by decide) (by decide) ?_
      have hl : lv_has ls 2 [(0, .ref fs), (1, .int (nI 7))] := hl
      refine lv_aload_n hx hb dX6_count_140 rfl (lv_at hl 0 rfl) ?_
      refine va_get (D := E.1) (ci := 6) (v := .ref (ad 0)) (C := RX6) (T := TX6) (N := 3) hx hb hts iwX6_count_X6_c_X6_count hown hG.1 hP 0 rfl rfl 0 (by decide) (hts (.fieldLink RX6 10 "FrettedStrings" "now" "LFrettedStrings$State;") (by decide +kernel)) (fun _ h9 => h9) rfl dX6_count_141 ?_
      refine va_get (D := E.1) (ci := 4) (v := .ref (ad 16)) (C := RX4) (T := TX4) (N := 6) hx hb hts iwX6_count_X4_c_X6_count hown hG.1 hP 1 rfl rfl 3 (by decide) (hts (.fieldLink RX6 174 "FrettedStrings$State" "settings" "[I") (by decide +kernel)) (fun _ h9 => h9) rfl dX6_count_144 ?_
      refine lv_iload_n hx hb dX6_count_147 rfl (lv_at hl 1 rfl) ?_
      refine lv_bipush (v := nI 7) hx hb dX6_count_148 (by decide) ?_
      refine z_isub (a := 7) (b := 7) hx hb dX6_count_150 (by omega) ?_
      refine z_iald (j := 7 - 7) (v := (X 12) (7 - 7)) hx hb hG hP 17 rfl (by omega) (by decide) (rfl) dX6_count_151 ?_
      exact hret _ _ _ dX6_count_152 (Or.inr (⟨7, (nI ((X 12) (7 - 7))), by first | rfl | (congr 1; omega), ⟨rfl, by omega, by unfold ctX; (repeat' split) <;> first | rfl | (exfalso; omega)⟩⟩))
    · -- 1 case 8
      subst hk
      refine lv_tableIn (tgt := 140) (off := 139) hx hb dX6_count_1 (by decide) (by decide) (by decide) (by decide) ?_
      have hl : lv_has ls 2 [(0, .ref fs), (1, .int (nI 8))] := hl
      refine lv_aload_n hx hb dX6_count_140 rfl (lv_at hl 0 rfl) ?_
      refine va_get (D := E.1) (ci := 6) (v := .ref (ad 0)) (C := RX6) (T := TX6) (N := 3) hx hb hts iwX6_count_X6_c_X6_count hown hG.1 hP 0 rfl rfl 0 (by decide) (hts (.fieldLink RX6 10 "FrettedStrings" "now" "LFrettedStrings$State;") (by decide +kernel)) (fun _ h9 => h9) rfl dX6_count_141 ?_
      refine va_get (D := E.1) (ci := 4) (v := .ref (ad 16)) (C := RX4) (T := TX4) (N := 6) hx hb hts iwX6_count_X4_c_X6_count hown hG.1 hP 1 rfl rfl 3 (by decide) (hts (.fieldLink RX6 174 "FrettedStrings$State" "settings" "[I") (by decide +kernel)) (fun _ h9 => h9) rfl dX6_count_144 ?_
      refine lv_iload_n hx hb dX6_count_147 rfl (lv_at hl 1 rfl) ?_
      refine lv_bipush (v := nI 7) hx hb dX6_count_148 (by decide) ?_
      refine z_isub (a := 8) (b := 7) hx hb dX6_count_150 (by omega) ?_
      refine z_iald (j := 8 - 7) (v := (X 12) (8 - 7)) hx hb hG hP 17 rfl (by omega) (by decide) (rfl) dX6_count_151 ?_
      exact hret _ _ _ dX6_count_152 (Or.inr (⟨8, (nI ((X 12) (8 - 7))), by first | rfl | (congr 1; omega), ⟨rfl, by omega, by unfold ctX; (repeat' split) <;> first | rfl | (exfalso; omega)⟩⟩))
    · -- 1 case 9
      subst hk
      refine lv_tableIn (tgt := 140) (off := 139) hx hb dX6_count_1 (by decide) (by decide) (by decide) (by decide) ?_
      have hl : lv_has ls 2 [(0, .ref fs), (1, .int (nI 9))] := hl
      refine lv_aload_n hx hb dX6_count_140 rfl (lv_at hl 0 rfl) ?_
      refine va_get (D := E.1) (ci := 6) (v := .ref (ad 0)) (C := RX6) (T := TX6) (N := 3) hx hb hts iwX6_count_X6_c_X6_count hown hG.1 hP 0 rfl rfl 0 (by decide) (hts (.fieldLink RX6 10 "FrettedStrings" "now" "LFrettedStrings$State;") (by decide +kernel)) (fun _ h9 => h9) rfl dX6_count_141 ?_
      refine va_get (D := E.1) (ci := 4) (v := .ref (ad 16)) (C := RX4) (T := TX4) (N := 6) hx hb hts iwX6_count_X4_c_X6_count hown hG.1 hP 1 rfl rfl 3 (by decide) (hts (.fieldLink RX6 174 "FrettedStrings$State" "settings" "[I") (by decide +kernel)) (fun _ h9 => h9) rfl dX6_count_144 ?_
      refine lv_iload_n hx hb dX6_count_147 rfl (lv_at hl 1 rfl) ?_
      refine lv_bipush (v := nI 7) hx hb dX6_count_148 (by decide) ?_
      refine z_isub (a := 9) (b := 7) hx hb dX6_count_150 (by omega) ?_
      refine z_iald (j := 9 - 7) (v := (X 12) (9 - 7)) hx hb hG hP 17 rfl (by omega) (by decide) (rfl) dX6_count_151 ?_
      exact hret _ _ _ dX6_count_152 (Or.inr (⟨9, (nI ((X 12) (9 - 7))), by first | rfl | (congr 1; omega), ⟨rfl, by omega, by unfold ctX; (repeat' split) <;> first | rfl | (exfalso; omega)⟩⟩))
    · -- 1 case 10
      subst hk
      refine lv_tableIn (tgt := 140) (off := 139) hx hb dX6_count_1 (by decide) (by decide) (by decide) (by decide) ?_
      have hl : lv_has ls 2 [(0, .ref fs), (1, .int (nI 10))] := hl
      refine lv_aload_n hx hb dX6_count_140 rfl (lv_at hl 0 rfl) ?_
      refine va_get (D := E.1) (ci := 6) (v := .ref (ad 0)) (C := RX6) (T := TX6) (N := 3) hx hb hts iwX6_count_X6_c_X6_count hown hG.1 hP 0 rfl rfl 0 (by decide) (hts (.fieldLink RX6 10 "FrettedStrings" "now" "LFrettedStrings$State;") (by decide +kernel)) (fun _ h9 => h9) rfl dX6_count_141 ?_
      refine va_get (D := E.1) (ci := 4) (v := .ref (ad 16)) (C := RX4) (T := TX4) (N := 6) hx hb hts iwX6_count_X4_c_X6_count hown hG.1 hP 1 rfl rfl 3 (by decide) (hts (.fieldLink RX6 174 "FrettedStrings$State" "settings" "[I") (by decide +kernel)) (fun _ h9 => h9) rfl dX6_count_144 ?_
      refine lv_iload_n hx hb dX6_count_147 rfl (lv_at hl 1 rfl) ?_
      refine lv_bipush (v := nI 7) hx hb dX6_count_148 (by decide) ?_
      refine z_isub (a := 10) (b := 7) hx hb dX6_count_150 (by omega) ?_
      refine z_iald (j := 10 - 7) (v := (X 12) (10 - 7)) hx hb hG hP 17 rfl (by omega) (by decide) (rfl) dX6_count_151 ?_
      exact hret _ _ _ dX6_count_152 (Or.inr (⟨10, (nI ((X 12) (10 - 7))), by first | rfl | (congr 1; omega), ⟨rfl, by omega, by unfold ctX; (repeat' split) <;> first | rfl | (exfalso; omega)⟩⟩))
    · -- 1 case 11
      subst hk
      refine lv_tableIn (tgt := 140) (off := 139) hx hb dX6_count_1 (by decide) (by decide) (by decide) (by decide) ?_
      have hl : lv_has ls 2 [(0, .ref fs), (1, .int (nI 11))] := hl
      refine lv_aload_n hx hb dX6_count_140 rfl (lv_at hl 0 rfl) ?_
      refine va_get (D := E.1) (ci := 6) (v := .ref (ad 0)) (C := RX6) (T := TX6) (N := 3) hx hb hts iwX6_count_X6_c_X6_count hown hG.1 hP 0 rfl rfl 0 (by decide) (hts (.fieldLink RX6 10 "FrettedStrings" "now" "LFrettedStrings$State;") (by decide +kernel)) (fun _ h9 => h9) rfl dX6_count_141 ?_
      refine va_get (D := E.1) (ci := 4) (v := .ref (ad 16)) (C := RX4) (T := TX4) (N := 6) hx hb hts iwX6_count_X4_c_X6_count hown hG.1 hP 1 rfl rfl 3 (by decide) (hts (.fieldLink RX6 174 "FrettedStrings$State" "settings" "[I") (by decide +kernel)) (fun _ h9 => h9) rfl dX6_count_144 ?_
      refine lv_iload_n hx hb dX6_count_147 rfl (lv_at hl 1 rfl) ?_
      refine lv_bipush (v := nI 7) hx hb dX6_count_148 (by decide) ?_
      refine z_isub (a := 11) (b := 7) hx hb dX6_count_150 (by omega) ?_
      refine z_iald (j := 11 - 7) (v := (X 12) (11 - 7)) hx hb hG hP 17 rfl (by omega) (by decide) (rfl) dX6_count_151 ?_
      exact hret _ _ _ dX6_count_152 (Or.inr (⟨11, (nI ((X 12) (11 - 7))), by first | rfl | (congr 1; omega), ⟨rfl, by omega, by unfold ctX; (repeat' split) <;> first | rfl | (exfalso; omega)⟩⟩))
    · -- 1 case 12
      subst hk
      refine lv_tableIn (tgt := 153) (off := 152) hx hb dX6_count_1 (by decide) (by decide) (by decide) (by decide) ?_
      have hl : lv_has ls 2 [(0, .ref fs), (1, .int (nI 12))] := hl
      refine lv_aload_n hx hb dX6_count_153 rfl (lv_at hl 0 rfl) ?_
      refine va_get (D := E.1) (ci := 6) (v := .ref hi) (C := RX6) (T := TX6) (N := 3) hx hb hts iwX6_count_X6_c_X6_count hown hG.1 hP 0 rfl rfl 1 (by decide) (hts (.fieldLink RX6 19 "FrettedStrings" "history" "LFrettedStrings$History;") (by decide +kernel)) (fun _ h9 => h9) rfl dX6_count_154 ?_
      refine va_get (D := E.1) (ci := 0) (v := .int (nI hz)) (C := RX0) (T := TX0) (N := 3) hx hb hts iwX6_count_X0_c_X6_count hown hG.1 hP 18 rfl rfl 0 (by decide) (hts (.fieldLink RX6 225 "FrettedStrings$History" "size" "I") (by decide +kernel)) (fun _ h9 => h9) rfl dX6_count_157 ?_
      exact hret _ _ _ dX6_count_160 (Or.inr (⟨12, (nI hz), by first | rfl | (congr 1; omega), ⟨rfl, by omega, by unfold ctX; (repeat' split) <;> first | rfl | (exfalso; omega)⟩⟩))
    · -- 1 case 13
      subst hk
      refine lv_tableIn (tgt := 161) (off := 160) hx hb dX6_count_1 (by decide) (by decide) (by decide) (by decide) ?_
      have hl : lv_has ls 2 [(0, .ref fs), (1, .int (nI 13))] := hl
      refine lv_aload_n hx hb dX6_count_161 rfl (lv_at hl 0 rfl) ?_
      refine va_get (D := E.1) (ci := 6) (v := .ref sc) (C := RX6) (T := TX6) (N := 3) hx hb hts iwX6_count_X6_c_X6_count hown hG.1 hP 0 rfl rfl 2 (by decide) (hts (.fieldLink RX6 26 "FrettedStrings" "score" "LFrettedStrings$Score;") (by decide +kernel)) (fun _ h9 => h9) rfl dX6_count_162 ?_
      refine va_get (D := E.1) (ci := 3) (v := .int (nI len)) (C := RX3) (T := TX3) (N := 9) hx hb hts iwX6_count_X3_c_X6_count hown hG.1 hP 20 rfl rfl 0 (by decide) (hts (.fieldLink RX6 226 "FrettedStrings$Score" "length" "I") (by decide +kernel)) (fun _ h9 => h9) rfl dX6_count_165 ?_
      exact hret _ _ _ dX6_count_168 (Or.inr (⟨13, (nI len), by first | rfl | (congr 1; omega), ⟨rfl, by omega, by unfold ctX; (repeat' split) <;> first | rfl | (exfalso; omega)⟩⟩))
