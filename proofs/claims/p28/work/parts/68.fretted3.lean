theorem iwX6_stringInfo_X6_c_X6_stringInfo : ∀ w ∈ wsX60, w ∈ wsX6_stringInfo := by decide +kernel
theorem iwX6_stringInfo_X4_c_X6_stringInfo : ∀ w ∈ wsX40, w ∈ wsX6_stringInfo := by decide +kernel
theorem iwX6_stringInfo_X5_c_X6_stringInfo : ∀ w ∈ wsX50, w ∈ wsX6_stringInfo := by decide +kernel
set_option maxHeartbeats 1000000 in
set_option maxRecDepth 100000 in
theorem c_X6_stringInfo (l : Launch) (E : zE) (fs sc hi rw hz old : Nat) (a v : Int32) (adA adB adC adD ad : Nat → Nat) (XA XB XC XD X : Nat → Nat → Nat) (hn : X 13 0 ≤ 12) (hPb : ∀ i, i < 12 → X 0 i ≤ 2400) (hHb : ∀ i, i < 12 → X 1 i ≤ 2000) (hprn : ∀ i, i < 4 → X 4 i ≤ X 13 0) (hst : ∀ i, i < 4 → X 8 i ≤ 2400) (hson : ∀ i, i < 4 → X 7 i ≤ X 13 0) (ham : ∀ i, i < 48 → X 9 i ≤ 1000000) (hse4 : X 12 4 ≤ 100000) : zR l yX6_stringInfo wsX6_stringInfo ({ frames := 2, cells := 0, slots := 0, locals := 45 }) E [.ref fs, .int a, .int v] ((fs, .inr (6, [.ref (ad 0), .ref hi, .ref sc])) :: ((ad 0), .inr (4, [.ref (ad 1), .ref (ad 5), .ref (ad 13), .ref (ad 16), .int (nI (X 13 2)), .int (nI (X 13 3))])) :: ((ad 1), .inr (1, [.int (nI (X 13 0)), .ref (ad 2), .ref (ad 3), .ref (ad 4)])) :: ((ad 2), .inl (E.2.1, 12, .inl (fun zz => nI ((X 0) zz)))) :: ((ad 3), .inl (E.2.1, 12, .inl (fun zz => nI ((X 1) zz)))) :: ((ad 4), .inl (E.2.1, 12, .inl (fun zz => nI ((X 2) zz)))) :: ((ad 5), .inr (5, [.ref (ad 6), .ref (ad 7), .ref (ad 8), .ref (ad 9), .ref (ad 10), .ref (ad 11), .ref (ad 12)])) :: ((ad 6), .inl (E.2.1, 4, .inl (fun zz => nI ((X 3) zz)))) :: ((ad 7), .inl (E.2.1, 4, .inl (fun zz => nI ((X 4) zz)))) :: ((ad 8), .inl (E.2.1, 4, .inl (fun zz => nI ((X 5) zz)))) :: ((ad 9), .inl (E.2.1, 4, .inl (fun zz => nI ((X 6) zz)))) :: ((ad 10), .inl (E.2.1, 4, .inl (fun zz => nI ((X 7) zz)))) :: ((ad 11), .inl (E.2.1, 4, .inl (fun zz => nI ((X 8) zz)))) :: ((ad 12), .inl (E.2.1, 48, .inl (fun zz => nI ((X 9) zz)))) :: ((ad 13), .inr (2, [.int (nI (X 13 1)), .ref (ad 14), .ref (ad 15)])) :: ((ad 14), .inl (E.2.1, 52, .inl (fun zz => nI ((X 10) zz)))) :: ((ad 15), .inl (E.2.1, 52, .inl (fun zz => nI ((X 11) zz)))) :: ((ad 16), .inl (E.2.1, 5, .inl (fun zz => nI ((X 12) zz)))) :: (hi, .inr (0, [.int (nI hz), .int (nI old), .ref rw])) :: (rw, .inl (E.2.2.2, 4, .inr (.inr (.inr (.inr (rr4 (adA 0) (adB 0) (adC 0) (adD 0))))))) :: (stW E adA XA ++ (stW E adB XB ++ (stW E adC XC ++ (stW E adD XD))))) (fun r => (r = (-1) ∧ (¬ ((nI 0 ≤ a ∧ a ≤ nI 3) ∧ (nI 0 ≤ v ∧ v ≤ nI 8)))) ∨ (∃ (s : Nat) (w : Nat) (r9 : Int32), r = r9 ∧ (a = nI s ∧ v = nI w ∧ s < 4 ∧ w ≤ 8 ∧ r9 = siX X s w))) := by
  refine zR.start (own := RX6) rfl (by decide +kernel) rfl (Nat.le_of_ble_eq_true rfl) (fun _ _ => rfl) ?_
  intro pZ eZ sZ mZ argsZ belowZ methZ cZ QZ hF hret hP hG ls hl
  obtain ⟨hx, hb, hml, hown, hts⟩ := id hF
  have hl : lv_has ls 3 [(0, .ref fs), (1, .int a), (2, .int v)] := hl
  refine lv_iload_n hx hb dX6_stringInfo_0 rfl (lv_at hl 1 rfl) ?_
  refine z_rd (fun _ h => h) (va_runS (As := [.int a]) (rest := []) hF (c_X6_isString l E a ) (va_cwS 1 hts gX6_stringInfo_X6_isString rfl rfl rfl (by decide +kernel) ⟨Nat.le_of_ble_eq_true rfl, Nat.le_of_ble_eq_true rfl⟩) (z_preR (fun k q h => by simp at h) hG) rfl rfl hl.1 rfl (lv_room (Nat.le_of_ble_eq_true rfl)) dX6_stringInfo_1 ⟨Nat.zero_le _, Nat.zero_le _⟩) (fun r1 hr1 => ?_)
  rcases hr1 with ⟨rfl, c2⟩ | ⟨rfl, c2⟩
  · -- 1 t
    obtain ⟨s, hs1, hs2, rfl⟩ := z_ge (by omega) (by omega) c2.1 c2.2
    refine lv_if_ne (tgt := 9) hx hb dX6_stringInfo_4 (by decide) (fun _ => ?_) (fun c => absurd c (by decide))
    refine lv_iload_n hx hb dX6_stringInfo_9 rfl (lv_at hl 2 rfl) ?_
    rcases z_tab v 8 (by decide) with c3 | ⟨kZ, c3, rfl⟩
    · -- 10 out
      refine lv_tableOut (tgt := 178) hx hb dX6_stringInfo_10 c3 (by decide) ?_
      refine lv_iconst (v := (-1)) hx hb dX6_stringInfo_178 (by decide) ?_
      exact hret _ _ _ dX6_stringInfo_179 (Or.inl ⟨rfl, by intro q; exact tab_o 8 (by omega) c3 (by first | exact q.2 | exact q.2.2)⟩)
    · -- 10 in
      obtain hk | hk | hk | hk | hk | hk | hk | hk | hk : kZ = 0 ∨ kZ = 1 ∨ kZ = 2 ∨ kZ = 3 ∨ kZ = 4 ∨ kZ = 5 ∨ kZ = 6 ∨ kZ = 7 ∨ kZ = 8 := by omega
      · -- 10 case 0
        subst hk
        refine lv_tableIn (tgt := 60) (off := 50) hx hb dX6_stringInfo_10 (by decide) (by decide) (by decide) (by decide) ?_
        have hl : lv_has ls 3 [(0, .ref fs), (1, .int (nI s)), (2, .int (nI 0))] := hl
        refine lv_aload_n hx hb dX6_stringInfo_60 rfl (lv_at hl 0 rfl) ?_
        refine va_get (D := E.1) (ci := 6) (v := .ref (ad 0)) (C := RX6) (T := TX6) (N := 3) hx hb hts iwX6_stringInfo_X6_c_X6_stringInfo hown hG.1 hP 0 rfl rfl 0 (by decide) (hts (.fieldLink RX6 10 "FrettedStrings" "now" "LFrettedStrings$State;") (by decide +kernel)) (fun _ h9 => h9) rfl dX6_stringInfo_61 ?_
        refine va_get (D := E.1) (ci := 4) (v := .ref (ad 5)) (C := RX4) (T := TX4) (N := 6) hx hb hts iwX6_stringInfo_X4_c_X6_stringInfo hown hG.1 hP 1 rfl rfl 1 (by decide) (hts (.fieldLink RX6 76 "FrettedStrings$State" "strings" "LFrettedStrings$Strings;") (by decide +kernel)) (fun _ h9 => h9) rfl dX6_stringInfo_64 ?_
        refine va_get (D := E.1) (ci := 5) (v := .ref (ad 6)) (C := RX5) (T := TX5) (N := 7) hx hb hts iwX6_stringInfo_X5_c_X6_stringInfo hown hG.1 hP 6 rfl rfl 0 (by decide) (hts (.fieldLink RX6 98 "FrettedStrings$Strings" "tension" "[I") (by decide +kernel)) (fun _ h9 => h9) rfl dX6_stringInfo_67 ?_
        refine lv_iload_n hx hb dX6_stringInfo_70 rfl (lv_at hl 1 rfl) ?_
        refine z_iald (j := s) (v := (X 3) s) hx hb hG hP 7 rfl (by omega) (by decide) (rfl) dX6_stringInfo_71 ?_
        exact hret _ _ _ dX6_stringInfo_72 (Or.inr (⟨s, 0, (nI ((X 3) s)), by first | rfl | (congr 1; omega), ⟨rfl, rfl, by omega, by omega, by unfold siX; (repeat' split) <;> first | rfl | (exfalso; omega)⟩⟩))
      · -- 10 case 1
        subst hk
        refine lv_tableIn (tgt := 73) (off := 63) hx hb dX6_stringInfo_10 (by decide) (by decide) (by decide) (by decide) ?_
        have hl : lv_has ls 3 [(0, .ref fs), (1, .int (nI s)), (2, .int (nI 1))] := hl
        refine lv_aload_n hx hb dX6_stringInfo_73 rfl (lv_at hl 0 rfl) ?_
        refine va_get (D := E.1) (ci := 6) (v := .ref (ad 0)) (C := RX6) (T := TX6) (N := 3) hx hb hts iwX6_stringInfo_X6_c_X6_stringInfo hown hG.1 hP 0 rfl rfl 0 (by decide) (hts (.fieldLink RX6 10 "FrettedStrings" "now" "LFrettedStrings$State;") (by decide +kernel)) (fun _ h9 => h9) rfl dX6_stringInfo_74 ?_
        refine va_get (D := E.1) (ci := 4) (v := .ref (ad 5)) (C := RX4) (T := TX4) (N := 6) hx hb hts iwX6_stringInfo_X4_c_X6_stringInfo hown hG.1 hP 1 rfl rfl 1 (by decide) (hts (.fieldLink RX6 76 "FrettedStrings$State" "strings" "LFrettedStrings$Strings;") (by decide +kernel)) (fun _ h9 => h9) rfl dX6_stringInfo_77 ?_
        refine va_get (D := E.1) (ci := 5) (v := .ref (ad 7)) (C := RX5) (T := TX5) (N := 7) hx hb hts iwX6_stringInfo_X5_c_X6_stringInfo hown hG.1 hP 6 rfl rfl 1 (by decide) (hts (.fieldLink RX6 131 "FrettedStrings$Strings" "pressed" "[I") (by decide +kernel)) (fun _ h9 => h9) rfl dX6_stringInfo_80 ?_
        refine lv_iload_n hx hb dX6_stringInfo_83 rfl (lv_at hl 1 rfl) ?_
        refine z_iald (j := s) (v := (X 4) s) hx hb hG hP 8 rfl (by omega) (by decide) (rfl) dX6_stringInfo_84 ?_
        exact hret _ _ _ dX6_stringInfo_85 (Or.inr (⟨s, 1, (nI ((X 4) s)), by first | rfl | (congr 1; omega), ⟨rfl, rfl, by omega, by omega, by unfold siX; (repeat' split) <;> first | rfl | (exfalso; omega)⟩⟩))
      · -- 10 case 2
        subst hk
        refine lv_tableIn (tgt := 86) (off := 76) hx hb dX6_stringInfo_10 (by decide) (by decide) (by decide) (by decide) ?_
        have hl : lv_has ls 3 [(0, .ref fs), (1, .int (nI s)), (2, .int (nI 2))] := hl
        refine lv_aload_n hx hb dX6_stringInfo_86 rfl (lv_at hl 0 rfl) ?_
        refine va_get (D := E.1) (ci := 6) (v := .ref (ad 0)) (C := RX6) (T := TX6) (N := 3) hx hb hts iwX6_stringInfo_X6_c_X6_stringInfo hown hG.1 hP 0 rfl rfl 0 (by decide) (hts (.fieldLink RX6 10 "FrettedStrings" "now" "LFrettedStrings$State;") (by decide +kernel)) (fun _ h9 => h9) rfl dX6_stringInfo_87 ?_
        refine va_get (D := E.1) (ci := 4) (v := .ref (ad 5)) (C := RX4) (T := TX4) (N := 6) hx hb hts iwX6_stringInfo_X4_c_X6_stringInfo hown hG.1 hP 1 rfl rfl 1 (by decide) (hts (.fieldLink RX6 76 "FrettedStrings$State" "strings" "LFrettedStrings$Strings;") (by decide +kernel)) (fun _ h9 => h9) rfl dX6_stringInfo_90 ?_
        refine va_get (D := E.1) (ci := 5) (v := .ref (ad 10)) (C := RX5) (T := TX5) (N := 7) hx hb hts iwX6_stringInfo_X5_c_X6_stringInfo hown hG.1 hP 6 rfl rfl 4 (by decide) (hts (.fieldLink RX6 134 "FrettedStrings$Strings" "source" "[I") (by decide +kernel)) (fun _ h9 => h9) rfl dX6_stringInfo_93 ?_
        refine lv_iload_n hx hb dX6_stringInfo_96 rfl (lv_at hl 1 rfl) ?_
        refine z_iald (j := s) (v := (X 7) s) hx hb hG hP 11 rfl (by omega) (by decide) (rfl) dX6_stringInfo_97 ?_
        exact hret _ _ _ dX6_stringInfo_98 (Or.inr (⟨s, 2, (nI ((X 7) s)), by first | rfl | (congr 1; omega), ⟨rfl, rfl, by omega, by omega, by unfold siX; (repeat' split) <;> first | rfl | (exfalso; omega)⟩⟩))
      · -- 10 case 3
        subst hk
        refine lv_tableIn (tgt := 99) (off := 89) hx hb dX6_stringInfo_10 (by decide) (by decide) (by decide) (by decide) ?_
        have hl : lv_has ls 3 [(0, .ref fs), (1, .int (nI s)), (2, .int (nI 3))] := hl
        refine lv_aload_n hx hb dX6_stringInfo_99 rfl (lv_at hl 0 rfl) ?_
        refine va_get (D := E.1) (ci := 6) (v := .ref (ad 0)) (C := RX6) (T := TX6) (N := 3) hx hb hts iwX6_stringInfo_X6_c_X6_stringInfo hown hG.1 hP 0 rfl rfl 0 (by decide) (hts (.fieldLink RX6 10 "FrettedStrings" "now" "LFrettedStrings$State;") (by decide +kernel)) (fun _ h9 => h9) rfl dX6_stringInfo_100 ?_
        refine va_get (D := E.1) (ci := 4) (v := .ref (ad 5)) (C := RX4) (T := TX4) (N := 6) hx hb hts iwX6_stringInfo_X4_c_X6_stringInfo hown hG.1 hP 1 rfl rfl 1 (by decide) (hts (.fieldLink RX6 76 "FrettedStrings$State" "strings" "LFrettedStrings$Strings;") (by decide +kernel)) (fun _ h9 => h9) rfl dX6_stringInfo_103 ?_
        refine lv_iload_n hx hb dX6_stringInfo_106 rfl (lv_at hl 1 rfl) ?_
        have hPc := zP_sub (w := [((ad 5), .inr (5, [.ref (ad 6), .ref (ad 7), .ref (ad 8), .ref (ad 9), .ref (ad 10), .ref (ad 11), .ref (ad 12)])), ((ad 7), .inl (E.2.1, 4, .inl (fun zz => nI ((X 4) zz)))), ((ad 10), .inl (E.2.1, 4, .inl (fun zz => nI ((X 7) zz))))]) hP [6, 8, 11] rfl
        refine z_rd (fun _ h => h) (va_runV (As := [.int (nI s)]) (rest := []) hF (c_X5_buzzes l E (ad 5) (ad 6) (ad 7) (ad 8) (ad 9) (ad 10) (ad 11) (ad 12) s (X 4) (X 7) (by omega) (fun i hi => Nat.le_trans (hprn i hi) hn) (fun i hi => Nat.le_trans (hson i hi) hn)) (cwV 1 hts gX6_stringInfo_X5_buzzes rfl rfl rfl (by decide +kernel) ⟨Nat.le_of_ble_eq_true rfl, Nat.le_of_ble_eq_true rfl⟩) (z_preRV (va_recv hG.1 hP (ci := 5) (q0 := 6) rfl rfl) hPc hG) rfl rfl hl.1 rfl (lv_room (Nat.le_of_ble_eq_true rfl)) dX6_stringInfo_107 ⟨Nat.zero_le _, Nat.zero_le _⟩) (fun r4 hr4 => ?_)
        rcases hr4 with ⟨rfl, c5⟩ | ⟨rfl, c5⟩
        · -- 107 t
          refine lv_if_eq (tgt := 117) hx hb dX6_stringInfo_110 (by decide) (fun c => absurd c (by decide)) (fun _ => ?_)
          refine lv_iconst (v := nI 1) hx hb dX6_stringInfo_113 (by decide) ?_
          refine lv_goto (tgt := 118) hx hb dX6_stringInfo_114 (by decide) ?_
          exact hret _ _ _ dX6_stringInfo_118 (Or.inr (⟨s, 3, (nI 1), by first | rfl | (congr 1; omega), ⟨rfl, rfl, by omega, by omega, by unfold siX; (repeat' split) <;> first | rfl | (exfalso; omega)⟩⟩))
        · -- 107 f
          refine lv_if_eq (tgt := 117) hx hb dX6_stringInfo_110 (by decide) (fun _ => ?_) (fun c => absurd c (by decide))
          refine lv_iconst (v := nI 0) hx hb dX6_stringInfo_117 (by decide) ?_
          exact hret _ _ _ dX6_stringInfo_118 (Or.inr (⟨s, 3, (nI 0), by first | rfl | (congr 1; omega), ⟨rfl, rfl, by omega, by omega, by unfold siX; (repeat' split) <;> first | rfl | (exfalso; omega)⟩⟩))
      · -- 10 case 4
        subst hk
        refine lv_tableIn (tgt := 119) (off := 109) hx hb dX6_stringInfo_10 (by decide) (by decide) (by decide) (by decide) ?_
        have hl : lv_has ls 3 [(0, .ref fs), (1, .int (nI s)), (2, .int (nI 4))] := hl
        refine lv_aload_n hx hb dX6_stringInfo_119 rfl (lv_at hl 0 rfl) ?_
        refine va_get (D := E.1) (ci := 6) (v := .ref (ad 0)) (C := RX6) (T := TX6) (N := 3) hx hb hts iwX6_stringInfo_X6_c_X6_stringInfo hown hG.1 hP 0 rfl rfl 0 (by decide) (hts (.fieldLink RX6 10 "FrettedStrings" "now" "LFrettedStrings$State;") (by decide +kernel)) (fun _ h9 => h9) rfl dX6_stringInfo_120 ?_
        refine va_get (D := E.1) (ci := 4) (v := .ref (ad 5)) (C := RX4) (T := TX4) (N := 6) hx hb hts iwX6_stringInfo_X4_c_X6_stringInfo hown hG.1 hP 1 rfl rfl 1 (by decide) (hts (.fieldLink RX6 76 "FrettedStrings$State" "strings" "LFrettedStrings$Strings;") (by decide +kernel)) (fun _ h9 => h9) rfl dX6_stringInfo_123 ?_
        refine lv_iload_n hx hb dX6_stringInfo_126 rfl (lv_at hl 1 rfl) ?_
        have hPc := zP_sub (w := [((ad 5), .inr (5, [.ref (ad 6), .ref (ad 7), .ref (ad 8), .ref (ad 9), .ref (ad 10), .ref (ad 11), .ref (ad 12)])), ((ad 11), .inl (E.2.1, 4, .inl (fun zz => nI ((X 8) zz))))]) hP [6, 12] rfl
        refine z_rd (fun _ h => h) (va_runV (As := [.int (nI s)]) (rest := []) hF (c_X5_soundingLength l E (ad 5) (ad 6) (ad 7) (ad 8) (ad 9) (ad 10) (ad 11) (ad 12) s (X 8) (by first | assumption | omega) (by first | assumption | omega)) (cwV 1 hts gX6_stringInfo_X5_soundingLength rfl rfl rfl (by decide +kernel) ⟨Nat.le_of_ble_eq_true rfl, Nat.le_of_ble_eq_true rfl⟩) (z_preRV (va_recv hG.1 hP (ci := 5) (q0 := 6) rfl rfl) hPc hG) rfl rfl hl.1 rfl (lv_room (Nat.le_of_ble_eq_true rfl)) dX6_stringInfo_127 ⟨Nat.zero_le _, Nat.zero_le _⟩) (fun r6 hr6 => ?_)
        subst hr6
        exact hret _ _ _ dX6_stringInfo_130 (Or.inr (⟨s, 4, (nI (2520 - (X 8) s)), by first | rfl | (congr 1; omega), ⟨rfl, rfl, by omega, by omega, by unfold siX; (repeat' split) <;> first | rfl | (exfalso; omega)⟩⟩))
      · -- 10 case 5
        subst hk
        refine lv_tableIn (tgt := 131) (off := 121) hx hb dX6_stringInfo_10 (by decide) (by decide) (by decide) (by decide) ?_
        have hl : lv_has ls 3 [(0, .ref fs), (1, .int (nI s)), (2, .int (nI 5))] := hl
        refine lv_aload_n hx hb dX6_stringInfo_131 rfl (lv_at hl 0 rfl) ?_
        refine va_get (D := E.1) (ci := 6) (v := .ref (ad 0)) (C := RX6) (T := TX6) (N := 3) hx hb hts iwX6_stringInfo_X6_c_X6_stringInfo hown hG.1 hP 0 rfl rfl 0 (by decide) (hts (.fieldLink RX6 10 "FrettedStrings" "now" "LFrettedStrings$State;") (by decide +kernel)) (fun _ h9 => h9) rfl dX6_stringInfo_132 ?_
        refine va_get (D := E.1) (ci := 4) (v := .ref (ad 5)) (C := RX4) (T := TX4) (N := 6) hx hb hts iwX6_stringInfo_X4_c_X6_stringInfo hown hG.1 hP 1 rfl rfl 1 (by decide) (hts (.fieldLink RX6 76 "FrettedStrings$State" "strings" "LFrettedStrings$Strings;") (by decide +kernel)) (fun _ h9 => h9) rfl dX6_stringInfo_135 ?_
        refine va_get (D := E.1) (ci := 5) (v := .ref (ad 8)) (C := RX5) (T := TX5) (N := 7) hx hb hts iwX6_stringInfo_X5_c_X6_stringInfo hown hG.1 hP 6 rfl rfl 2 (by decide) (hts (.fieldLink RX6 111 "FrettedStrings$Strings" "finger" "[I") (by decide +kernel)) (fun _ h9 => h9) rfl dX6_stringInfo_138 ?_
        refine lv_iload_n hx hb dX6_stringInfo_141 rfl (lv_at hl 1 rfl) ?_
        refine z_iald (j := s) (v := (X 5) s) hx hb hG hP 9 rfl (by omega) (by decide) (rfl) dX6_stringInfo_142 ?_
        exact hret _ _ _ dX6_stringInfo_143 (Or.inr (⟨s, 5, (nI ((X 5) s)), by first | rfl | (congr 1; omega), ⟨rfl, rfl, by omega, by omega, by unfold siX; (repeat' split) <;> first | rfl | (exfalso; omega)⟩⟩))
      · -- 10 case 6
        subst hk
        refine lv_tableIn (tgt := 144) (off := 134) hx hb dX6_stringInfo_10 (by decide) (by decide) (by decide) (by decide) ?_
        have hl : lv_has ls 3 [(0, .ref fs), (1, .int (nI s)), (2, .int (nI 6))] := hl
        refine lv_aload_n hx hb dX6_stringInfo_144 rfl (lv_at hl 0 rfl) ?_
        refine va_get (D := E.1) (ci := 6) (v := .ref (ad 0)) (C := RX6) (T := TX6) (N := 3) hx hb hts iwX6_stringInfo_X6_c_X6_stringInfo hown hG.1 hP 0 rfl rfl 0 (by decide) (hts (.fieldLink RX6 10 "FrettedStrings" "now" "LFrettedStrings$State;") (by decide +kernel)) (fun _ h9 => h9) rfl dX6_stringInfo_145 ?_
        refine lv_iload_n hx hb dX6_stringInfo_148 rfl (lv_at hl 1 rfl) ?_
        have hPc := zP_sub (w := [((ad 0), .inr (4, [.ref (ad 1), .ref (ad 5), .ref (ad 13), .ref (ad 16), .int (nI (X 13 2)), .int (nI (X 13 3))])), ((ad 5), .inr (5, [.ref (ad 6), .ref (ad 7), .ref (ad 8), .ref (ad 9), .ref (ad 10), .ref (ad 11), .ref (ad 12)])), ((ad 12), .inl (E.2.1, 48, .inl (fun zz => nI ((X 9) zz)))), ((ad 16), .inl (E.2.1, 5, .inl (fun zz => nI ((X 12) zz))))]) hP [1, 6, 13, 17] rfl
        refine z_rd (fun _ h => h) (va_runV (As := [.int (nI s)]) (rest := []) hF (c_X4_maskHeard l E (ad 0) (ad 1) (ad 5) (ad 13) (ad 16) (X 13 2) (X 13 3) (ad 6) (ad 7) (ad 8) (ad 9) (ad 10) (ad 11) (ad 12) s (X 9) (X 12) (by first | assumption | omega) (by first | assumption | omega) (by first | assumption | omega)) (cwV 1 hts gX6_stringInfo_X4_maskHeard rfl rfl rfl (by decide +kernel) ⟨Nat.le_of_ble_eq_true rfl, Nat.le_of_ble_eq_true rfl⟩) (z_preRV (va_recv hG.1 hP (ci := 4) (q0 := 1) rfl rfl) hPc hG) rfl rfl hl.1 rfl (lv_room (Nat.le_of_ble_eq_true rfl)) dX6_stringInfo_149 ⟨Nat.zero_le _, Nat.zero_le _⟩) (fun r7 hr7 => ?_)
        subst hr7
        exact hret _ _ _ dX6_stringInfo_152 (Or.inr (⟨s, 6, (nI (mhL (X 9) ((X 12) 4) s 12)), by first | rfl | (congr 1; omega), ⟨rfl, rfl, by omega, by omega, by unfold siX; (repeat' split) <;> first | rfl | (exfalso; omega)⟩⟩))
      · -- 10 case 7
        subst hk
        refine lv_tableIn (tgt := 153) (off := 143) hx hb dX6_stringInfo_10 (by decide) (by decide) (by decide) (by decide) ?_
        have hl : lv_has ls 3 [(0, .ref fs), (1, .int (nI s)), (2, .int (nI 7))] := hl
        refine lv_aload_n hx hb dX6_stringInfo_153 rfl (lv_at hl 0 rfl) ?_
        refine va_get (D := E.1) (ci := 6) (v := .ref (ad 0)) (C := RX6) (T := TX6) (N := 3) hx hb hts iwX6_stringInfo_X6_c_X6_stringInfo hown hG.1 hP 0 rfl rfl 0 (by decide) (hts (.fieldLink RX6 10 "FrettedStrings" "now" "LFrettedStrings$State;") (by decide +kernel)) (fun _ h9 => h9) rfl dX6_stringInfo_154 ?_
        refine va_get (D := E.1) (ci := 4) (v := .ref (ad 5)) (C := RX4) (T := TX4) (N := 6) hx hb hts iwX6_stringInfo_X4_c_X6_stringInfo hown hG.1 hP 1 rfl rfl 1 (by decide) (hts (.fieldLink RX6 76 "FrettedStrings$State" "strings" "LFrettedStrings$Strings;") (by decide +kernel)) (fun _ h9 => h9) rfl dX6_stringInfo_157 ?_
        refine lv_iload_n hx hb dX6_stringInfo_160 rfl (lv_at hl 1 rfl) ?_
        have hPc := zP_sub (w := [((ad 5), .inr (5, [.ref (ad 6), .ref (ad 7), .ref (ad 8), .ref (ad 9), .ref (ad 10), .ref (ad 11), .ref (ad 12)])), ((ad 12), .inl (E.2.1, 48, .inl (fun zz => nI ((X 9) zz))))]) hP [6, 13] rfl
        refine z_rd (fun _ h => h) (va_runV (As := [.int (nI s)]) (rest := []) hF (c_X5_sumOfAmplitudes l E (ad 5) (ad 6) (ad 7) (ad 8) (ad 9) (ad 10) (ad 11) (ad 12) s (X 9) (by first | assumption | omega)) (cwV 1 hts gX6_stringInfo_X5_sumOfAmplitudes rfl rfl rfl (by decide +kernel) ⟨Nat.le_of_ble_eq_true rfl, Nat.le_of_ble_eq_true rfl⟩) (z_preRV (va_recv hG.1 hP (ci := 5) (q0 := 6) rfl rfl) hPc hG) rfl rfl hl.1 rfl (lv_room (Nat.le_of_ble_eq_true rfl)) dX6_stringInfo_161 ⟨Nat.zero_le _, Nat.zero_le _⟩) (fun r8 hr8 => ?_)
        subst hr8
        exact hret _ _ _ dX6_stringInfo_164 (Or.inr (⟨s, 7, (nI (sumA (X 9) s 12)), by first | rfl | (congr 1; omega), ⟨rfl, rfl, by omega, by omega, by unfold siX; (repeat' split) <;> first | rfl | (exfalso; omega)⟩⟩))
      · -- 10 case 8
        subst hk
        refine lv_tableIn (tgt := 165) (off := 155) hx hb dX6_stringInfo_10 (by decide) (by decide) (by decide) (by decide) ?_
        have hl : lv_has ls 3 [(0, .ref fs), (1, .int (nI s)), (2, .int (nI 8))] := hl
        refine lv_aload_n hx hb dX6_stringInfo_165 rfl (lv_at hl 0 rfl) ?_
        refine va_get (D := E.1) (ci := 6) (v := .ref (ad 0)) (C := RX6) (T := TX6) (N := 3) hx hb hts iwX6_stringInfo_X6_c_X6_stringInfo hown hG.1 hP 0 rfl rfl 0 (by decide) (hts (.fieldLink RX6 10 "FrettedStrings" "now" "LFrettedStrings$State;") (by decide +kernel)) (fun _ h9 => h9) rfl dX6_stringInfo_166 ?_
        refine va_get (D := E.1) (ci := 4) (v := .ref (ad 5)) (C := RX4) (T := TX4) (N := 6) hx hb hts iwX6_stringInfo_X4_c_X6_stringInfo hown hG.1 hP 1 rfl rfl 1 (by decide) (hts (.fieldLink RX6 76 "FrettedStrings$State" "strings" "LFrettedStrings$Strings;") (by decide +kernel)) (fun _ h9 => h9) rfl dX6_stringInfo_169 ?_
        refine va_get (D := E.1) (ci := 5) (v := .ref (ad 9)) (C := RX5) (T := TX5) (N := 7) hx hb hts iwX6_stringInfo_X5_c_X6_stringInfo hown hG.1 hP 6 rfl rfl 3 (by decide) (hts (.fieldLink RX6 146 "FrettedStrings$Strings" "plucks" "[I") (by decide +kernel)) (fun _ h9 => h9) rfl dX6_stringInfo_172 ?_
        refine lv_iload_n hx hb dX6_stringInfo_175 rfl (lv_at hl 1 rfl) ?_
        refine z_iald (j := s) (v := (X 6) s) hx hb hG hP 10 rfl (by omega) (by decide) (rfl) dX6_stringInfo_176 ?_
        exact hret _ _ _ dX6_stringInfo_177 (Or.inr (⟨s, 8, (nI ((X 6) s)), by first | rfl | (congr 1; omega), ⟨rfl, rfl, by omega, by omega, by unfold siX; (repeat' split) <;> first | rfl | (exfalso; omega)⟩⟩))
  · -- 1 f
    refine lv_if_ne (tgt := 9) hx hb dX6_stringInfo_4 (by decide) (fun c => absurd c (by decide)) (fun _ => ?_)
    refine lv_iconst (v := (-1)) hx hb dX6_stringInfo_7 (by decide) ?_
    exact hret _ _ _ dX6_stringInfo_8 (Or.inl ⟨rfl, by intro q; first | exact absurd q (by assumption) | exact absurd q.1 (by assumption) | exact absurd q.2 (by assumption) | exact absurd q.2.1 (by assumption) | exact absurd q.2.2 (by assumption)⟩)
theorem iwX6_ticksTo_X6_c_X6_ticksTo : ∀ w ∈ wsX60, w ∈ wsX6_ticksTo := by decide +kernel
set_option maxHeartbeats 1000000 in
set_option maxRecDepth 100000 in
theorem c_X6_ticksTo (l : Launch) (E : zE) (fs sc hi rw hz old : Nat) (a v : Int32) (adA adB adC adD ad : Nat → Nat) (XA XB XC XD X : Nat → Nat → Nat) (hn : X 13 0 ≤ 12) (hPb : ∀ i, i < 12 → X 0 i ≤ 2400) (hHb : ∀ i, i < 12 → X 1 i ≤ 2000) (hprn : ∀ i, i < 4 → X 4 i ≤ X 13 0) (hst : ∀ i, i < 4 → X 8 i ≤ 2400) (hfi : ∀ i, i < 4 → X 5 i ≤ 2519) (ham : ∀ i, i < 48 → X 9 i ≤ 1000000) (hse0 : X 12 0 ≤ 1000) (hse1 : X 12 1 ≤ 100) (hse2 : X 12 2 ≤ 1000) (hse4 : X 12 4 ≤ 100000) : zR l yX6_ticksTo wsX6_ticksTo ({ frames := 4, cells := 0, slots := 0, locals := 94 }) E [.ref fs, .int a, .int v] ((fs, .inr (6, [.ref (ad 0), .ref hi, .ref sc])) :: ((ad 0), .inr (4, [.ref (ad 1), .ref (ad 5), .ref (ad 13), .ref (ad 16), .int (nI (X 13 2)), .int (nI (X 13 3))])) :: ((ad 1), .inr (1, [.int (nI (X 13 0)), .ref (ad 2), .ref (ad 3), .ref (ad 4)])) :: ((ad 2), .inl (E.2.1, 12, .inl (fun zz => nI ((X 0) zz)))) :: ((ad 3), .inl (E.2.1, 12, .inl (fun zz => nI ((X 1) zz)))) :: ((ad 4), .inl (E.2.1, 12, .inl (fun zz => nI ((X 2) zz)))) :: ((ad 5), .inr (5, [.ref (ad 6), .ref (ad 7), .ref (ad 8), .ref (ad 9), .ref (ad 10), .ref (ad 11), .ref (ad 12)])) :: ((ad 6), .inl (E.2.1, 4, .inl (fun zz => nI ((X 3) zz)))) :: ((ad 7), .inl (E.2.1, 4, .inl (fun zz => nI ((X 4) zz)))) :: ((ad 8), .inl (E.2.1, 4, .inl (fun zz => nI ((X 5) zz)))) :: ((ad 9), .inl (E.2.1, 4, .inl (fun zz => nI ((X 6) zz)))) :: ((ad 10), .inl (E.2.1, 4, .inl (fun zz => nI ((X 7) zz)))) :: ((ad 11), .inl (E.2.1, 4, .inl (fun zz => nI ((X 8) zz)))) :: ((ad 12), .inl (E.2.1, 48, .inl (fun zz => nI ((X 9) zz)))) :: ((ad 13), .inr (2, [.int (nI (X 13 1)), .ref (ad 14), .ref (ad 15)])) :: ((ad 14), .inl (E.2.1, 52, .inl (fun zz => nI ((X 10) zz)))) :: ((ad 15), .inl (E.2.1, 52, .inl (fun zz => nI ((X 11) zz)))) :: ((ad 16), .inl (E.2.1, 5, .inl (fun zz => nI ((X 12) zz)))) :: (hi, .inr (0, [.int (nI hz), .int (nI old), .ref rw])) :: (rw, .inl (E.2.2.2, 4, .inr (.inr (.inr (.inr (rr4 (adA 0) (adB 0) (adC 0) (adD 0))))))) :: (stW E adA XA ++ (stW E adB XB ++ (stW E adC XC ++ (stW E adD XD))))) (fun r => (r = (-1) ∧ (¬ ((nI 0 ≤ a ∧ a ≤ nI 3) ∧ (nI 1 ≤ v ∧ v ≤ nI 12)))) ∨ (∃ (s : Nat) (n : Nat) (r9 : Int32), r = r9 ∧ (a = nI s ∧ v = nI n ∧ s < 4 ∧ 1 ≤ n ∧ n ≤ 12 ∧ r9 = ttu (X 12 4) (X 12 0) (X 12 1) (X 12 2) n (dmp (X 5) (X 8) s n) 2001 0 (X 9 (s * 12 + n - 1))))) := by
  refine zR.start (own := RX6) rfl (by decide +kernel) rfl (Nat.le_of_ble_eq_true rfl) (fun _ _ => rfl) ?_
  intro pZ eZ sZ mZ argsZ belowZ methZ cZ QZ hF hret hP hG ls hl
  obtain ⟨hx, hb, hml, hown, hts⟩ := id hF
  have hl : lv_has ls 3 [(0, .ref fs), (1, .int a), (2, .int v)] := hl
  refine lv_iload_n hx hb dX6_ticksTo_0 rfl (lv_at hl 1 rfl) ?_
  refine z_rd (fun _ h => h) (va_runS (As := [.int a]) (rest := []) hF (c_X6_isString l E a ) (va_cwS 1 hts gX6_ticksTo_X6_isString rfl rfl rfl (by decide +kernel) ⟨Nat.le_of_ble_eq_true rfl, Nat.le_of_ble_eq_true rfl⟩) (z_preR (fun k q h => by simp at h) hG) rfl rfl hl.1 rfl (lv_room (Nat.le_of_ble_eq_true rfl)) dX6_ticksTo_1 ⟨Nat.zero_le _, Nat.zero_le _⟩) (fun r1 hr1 => ?_)
  rcases hr1 with ⟨rfl, c2⟩ | ⟨rfl, c2⟩
  · -- 1 t
    have ka := c2
    refine lv_if_eq (tgt := 14) hx hb dX6_ticksTo_4 (by decide) (fun c => absurd c (by decide)) (fun _ => ?_)
    refine lv_iload_n hx hb dX6_ticksTo_7 rfl (lv_at hl 2 rfl) ?_
    refine z_rd (fun _ h => h) (va_runS (As := [.int v]) (rest := []) hF (c_X6_isMode l E v ) (va_cwS 1 hts gX6_ticksTo_X6_isMode rfl rfl rfl (by decide +kernel) ⟨Nat.le_of_ble_eq_true rfl, Nat.le_of_ble_eq_true rfl⟩) (z_preR (fun k q h => by simp at h) hG) rfl rfl hl.1 rfl (lv_room (Nat.le_of_ble_eq_true rfl)) dX6_ticksTo_8 ⟨Nat.zero_le _, Nat.zero_le _⟩) (fun r3 hr3 => ?_)
    rcases hr3 with ⟨rfl, c4⟩ | ⟨rfl, c4⟩
    · -- 8 t
      obtain ⟨s, hs1, hs2, rfl⟩ := z_ge (by omega) (by omega) ka.1 ka.2
      obtain ⟨n, hn1, hn2, rfl⟩ := z_ge (by omega) (by omega) c4.1 c4.2
      refine lv_if_ne (tgt := 16) hx hb dX6_ticksTo_11 (by decide) (fun _ => ?_) (fun c => absurd c (by decide))
      refine lv_aload_n hx hb dX6_ticksTo_16 rfl (lv_at hl 0 rfl) ?_
      refine va_get (D := E.1) (ci := 6) (v := .ref (ad 0)) (C := RX6) (T := TX6) (N := 3) hx hb hts iwX6_ticksTo_X6_c_X6_ticksTo hown hG.1 hP 0 rfl rfl 0 (by decide) (hts (.fieldLink RX6 10 "FrettedStrings" "now" "LFrettedStrings$State;") (by decide +kernel)) (fun _ h9 => h9) rfl dX6_ticksTo_17 ?_
      refine lv_iload_n hx hb dX6_ticksTo_20 rfl (lv_at hl 1 rfl) ?_
      refine lv_iload_n hx hb dX6_ticksTo_21 rfl (lv_at hl 2 rfl) ?_
      have hPc := zP_sub (w := [((ad 0), .inr (4, [.ref (ad 1), .ref (ad 5), .ref (ad 13), .ref (ad 16), .int (nI (X 13 2)), .int (nI (X 13 3))])), ((ad 5), .inr (5, [.ref (ad 6), .ref (ad 7), .ref (ad 8), .ref (ad 9), .ref (ad 10), .ref (ad 11), .ref (ad 12)])), ((ad 8), .inl (E.2.1, 4, .inl (fun zz => nI ((X 5) zz)))), ((ad 11), .inl (E.2.1, 4, .inl (fun zz => nI ((X 8) zz)))), ((ad 12), .inl (E.2.1, 48, .inl (fun zz => nI ((X 9) zz)))), ((ad 16), .inl (E.2.1, 5, .inl (fun zz => nI ((X 12) zz))))]) hP [1, 6, 9, 12, 13, 17] rfl
      refine z_rd (fun _ h => h) (va_runV (As := [.int (nI s), .int (nI n)]) (rest := []) hF (c_X4_ticksUntilUnheard l E (ad 0) (ad 1) (ad 5) (ad 13) (ad 16) (X 13 2) (X 13 3) (ad 6) (ad 7) (ad 8) (ad 9) (ad 10) (ad 11) (ad 12) s n (X 5) (X 8) (X 9) (X 12) (by first | assumption | omega) (by first | assumption | omega) (by first | assumption | omega) (by first | assumption | omega) (by first | assumption | omega) (by first | assumption | omega) (by first | assumption | omega) (by first | assumption | omega) (by first | assumption | omega) (by first | assumption | omega)) (cwV 2 hts gX6_ticksTo_X4_ticksUntilUnheard rfl rfl rfl (by decide +kernel) ⟨Nat.le_of_ble_eq_true rfl, Nat.le_of_ble_eq_true rfl⟩) (z_preRV (va_recv hG.1 hP (ci := 4) (q0 := 1) rfl rfl) hPc hG) rfl rfl hl.1 rfl (lv_room (Nat.le_of_ble_eq_true rfl)) dX6_ticksTo_22 ⟨Nat.zero_le _, Nat.zero_le _⟩) (fun r5 hr5 => ?_)
      subst hr5
      exact hret _ _ _ dX6_ticksTo_25 (Or.inr (⟨s, n, (ttu ((X 12) 4) ((X 12) 0) ((X 12) 1) ((X 12) 2) n (dmp (X 5) (X 8) s n) 2001 0 ((X 9) (s * 12 + n - 1))), by first | rfl | (congr 1; omega), ⟨rfl, rfl, by omega, by omega, by omega, rfl⟩⟩))
    · -- 8 f
      refine lv_if_ne (tgt := 16) hx hb dX6_ticksTo_11 (by decide) (fun c => absurd c (by decide)) (fun _ => ?_)
      refine lv_iconst (v := (-1)) hx hb dX6_ticksTo_14 (by decide) ?_
      exact hret _ _ _ dX6_ticksTo_15 (Or.inl ⟨rfl, by intro q; first | exact absurd q (by assumption) | exact absurd q.1 (by assumption) | exact absurd q.2 (by assumption) | exact absurd q.2.1 (by assumption) | exact absurd q.2.2 (by assumption)⟩)
  · -- 1 f
    refine lv_if_eq (tgt := 14) hx hb dX6_ticksTo_4 (by decide) (fun _ => ?_) (fun c => absurd c (by decide))
    refine lv_iconst (v := (-1)) hx hb dX6_ticksTo_14 (by decide) ?_
    exact hret _ _ _ dX6_ticksTo_15 (Or.inl ⟨rfl, by intro q; first | exact absurd q (by assumption) | exact absurd q.1 (by assumption) | exact absurd q.2 (by assumption) | exact absurd q.2.1 (by assumption) | exact absurd q.2.2 (by assumption)⟩)
theorem iwX6_slowest_X6_c_X6_slowest : ∀ w ∈ wsX60, w ∈ wsX6_slowest := by decide +kernel
set_option maxHeartbeats 1000000 in
set_option maxRecDepth 100000 in
theorem c_X6_slowest (l : Launch) (E : zE) (fs sc hi rw hz old : Nat) (a b w : Int32) (adA adB adC adD ad : Nat → Nat) (XA XB XC XD X : Nat → Nat → Nat) (hn : X 13 0 ≤ 12) (hPb : ∀ i, i < 12 → X 0 i ≤ 2400) (hHb : ∀ i, i < 12 → X 1 i ≤ 2000) (hprn : ∀ i, i < 4 → X 4 i ≤ X 13 0) (hst : ∀ i, i < 4 → X 8 i ≤ 2400) (hte : ∀ i, i < 4 → X 3 i ≤ 100000000) (ham : ∀ i, i < 48 → X 9 i ≤ 1000000) (hse4 : X 12 4 ≤ 100000) : zR l yX6_slowest wsX6_slowest ({ frames := 4, cells := 0, slots := 0, locals := 97 }) E [.ref fs, .int a, .int b, .int w] ((fs, .inr (6, [.ref (ad 0), .ref hi, .ref sc])) :: ((ad 0), .inr (4, [.ref (ad 1), .ref (ad 5), .ref (ad 13), .ref (ad 16), .int (nI (X 13 2)), .int (nI (X 13 3))])) :: ((ad 1), .inr (1, [.int (nI (X 13 0)), .ref (ad 2), .ref (ad 3), .ref (ad 4)])) :: ((ad 2), .inl (E.2.1, 12, .inl (fun zz => nI ((X 0) zz)))) :: ((ad 3), .inl (E.2.1, 12, .inl (fun zz => nI ((X 1) zz)))) :: ((ad 4), .inl (E.2.1, 12, .inl (fun zz => nI ((X 2) zz)))) :: ((ad 5), .inr (5, [.ref (ad 6), .ref (ad 7), .ref (ad 8), .ref (ad 9), .ref (ad 10), .ref (ad 11), .ref (ad 12)])) :: ((ad 6), .inl (E.2.1, 4, .inl (fun zz => nI ((X 3) zz)))) :: ((ad 7), .inl (E.2.1, 4, .inl (fun zz => nI ((X 4) zz)))) :: ((ad 8), .inl (E.2.1, 4, .inl (fun zz => nI ((X 5) zz)))) :: ((ad 9), .inl (E.2.1, 4, .inl (fun zz => nI ((X 6) zz)))) :: ((ad 10), .inl (E.2.1, 4, .inl (fun zz => nI ((X 7) zz)))) :: ((ad 11), .inl (E.2.1, 4, .inl (fun zz => nI ((X 8) zz)))) :: ((ad 12), .inl (E.2.1, 48, .inl (fun zz => nI ((X 9) zz)))) :: ((ad 13), .inr (2, [.int (nI (X 13 1)), .ref (ad 14), .ref (ad 15)])) :: ((ad 14), .inl (E.2.1, 52, .inl (fun zz => nI ((X 10) zz)))) :: ((ad 15), .inl (E.2.1, 52, .inl (fun zz => nI ((X 11) zz)))) :: ((ad 16), .inl (E.2.1, 5, .inl (fun zz => nI ((X 12) zz)))) :: (hi, .inr (0, [.int (nI hz), .int (nI old), .ref rw])) :: (rw, .inl (E.2.2.2, 4, .inr (.inr (.inr (.inr (rr4 (adA 0) (adB 0) (adC 0) (adD 0))))))) :: (stW E adA XA ++ (stW E adB XB ++ (stW E adC XC ++ (stW E adD XD))))) (fun r => (r = (-1) ∧ (¬ (((nI 0 ≤ a ∧ a ≤ nI 3) ∧ (nI 0 ≤ b ∧ b ≤ nI 3) ∧ a ≠ b) ∧ nI 0 ≤ w ∧ w ≤ nI 2))) ∨ (∃ (a0 : Nat) (b0 : Nat) (k : Nat) (r9 : Int32), r = r9 ∧ (a = nI a0 ∧ b = nI b0 ∧ w = nI k ∧ a0 < 4 ∧ b0 < 4 ∧ a0 ≠ b0 ∧ k ≤ 2 ∧ r9 = if (slL (X 3) (X 8) (X 9) (X 12 4) a0 b0 144).1 = 0 then -4 else if k = 0 then nI (slL (X 3) (X 8) (X 9) (X 12 4) a0 b0 144).1 else if k = 1 then nI (slL (X 3) (X 8) (X 9) (X 12 4) a0 b0 144).2.1 else nI (slL (X 3) (X 8) (X 9) (X 12 4) a0 b0 144).2.2))) := by
  refine zR.start (own := RX6) rfl (by decide +kernel) rfl (Nat.le_of_ble_eq_true rfl) (fun _ _ => rfl) ?_
  intro pZ eZ sZ mZ argsZ belowZ methZ cZ QZ hF hret hP hG ls hl
  obtain ⟨hx, hb, hml, hown, hts⟩ := id hF
  have hl : lv_has ls 4 [(0, .ref fs), (1, .int a), (2, .int b), (3, .int w)] := hl
  refine lv_iload_n hx hb dX6_slowest_0 rfl (lv_at hl 1 rfl) ?_
  refine z_rd (fun _ h => h) (va_runS (As := [.int a]) (rest := []) hF (c_X6_isString l E a ) (va_cwS 1 hts gX6_slowest_X6_isString rfl rfl rfl (by decide +kernel) ⟨Nat.le_of_ble_eq_true rfl, Nat.le_of_ble_eq_true rfl⟩) (z_preR (fun k q h => by simp at h) hG) rfl rfl hl.1 rfl (lv_room (Nat.le_of_ble_eq_true rfl)) dX6_slowest_1 ⟨Nat.zero_le _, Nat.zero_le _⟩) (fun r1 hr1 => ?_)
  rcases hr1 with ⟨rfl, c2⟩ | ⟨rfl, c2⟩
  · -- 1 t
    have ka := c2
    refine lv_if_eq (tgt := 28) hx hb dX6_slowest_4 (by decide) (fun c => absurd c (by decide)) (fun _ => ?_)
    refine lv_iload_n hx hb dX6_slowest_7 rfl (lv_at hl 2 rfl) ?_
    refine z_rd (fun _ h => h) (va_runS (As := [.int b]) (rest := []) hF (c_X6_isString l E b ) (va_cwS 1 hts gX6_slowest_X6_isString rfl rfl rfl (by decide +kernel) ⟨Nat.le_of_ble_eq_true rfl, Nat.le_of_ble_eq_true rfl⟩) (z_preR (fun k q h => by simp at h) hG) rfl rfl hl.1 rfl (lv_room (Nat.le_of_ble_eq_true rfl)) dX6_slowest_8 ⟨Nat.zero_le _, Nat.zero_le _⟩) (fun r3 hr3 => ?_)
    rcases hr3 with ⟨rfl, c4⟩ | ⟨rfl, c4⟩
    · -- 8 t
      have kb := c4
      refine lv_if_eq (tgt := 28) hx hb dX6_slowest_11 (by decide) (fun c => absurd c (by decide)) (fun _ => ?_)
      refine lv_iload_n hx hb dX6_slowest_14 rfl (lv_at hl 1 rfl) ?_
      refine lv_iload_n hx hb dX6_slowest_15 rfl (lv_at hl 2 rfl) ?_
      refine lv_icmp_eq (tgt := 28) hx hb dX6_slowest_16 (by decide) (fun c5 => ?_) (fun c5 => ?_)
      · -- 16 t
        refine lv_iconst (v := (-1)) hx hb dX6_slowest_28 (by decide) ?_
        exact hret _ _ _ dX6_slowest_29 (Or.inl ⟨rfl, by intro q; first | exact absurd q.1.1 (by assumption) | exact absurd q.1.2.1 (by assumption) | exact q.1.2.2 (by assumption) | exact absurd q.2 (by assumption) | exact absurd q.2.1 (by assumption) | exact absurd q.2.2 (by assumption)⟩)
      · -- 16 f
        have kab := c5
        refine lv_iload_n hx hb dX6_slowest_19 rfl (lv_at hl 3 rfl) ?_
        refine lv_iconst (v := nI 0) hx hb dX6_slowest_20 (by decide) ?_
        refine lv_iconst (v := nI 2) hx hb dX6_slowest_21 (by decide) ?_
        refine z_rd (fun _ h => h) (va_runS (As := [.int w, .int (nI 0), .int (nI 2)]) (rest := []) hF (c_X6_isWithin l E w (nI 0) (nI 2) ) (va_cwS 3 hts gX6_slowest_X6_isWithin rfl rfl rfl (by decide +kernel) ⟨Nat.le_of_ble_eq_true rfl, Nat.le_of_ble_eq_true rfl⟩) (z_preR (fun k q h => by simp at h) hG) rfl rfl hl.1 rfl (lv_room (Nat.le_of_ble_eq_true rfl)) dX6_slowest_22 ⟨Nat.zero_le _, Nat.zero_le _⟩) (fun r6 hr6 => ?_)
        rcases hr6 with ⟨rfl, c7⟩ | ⟨rfl, c7⟩
        · -- 22 t
          obtain ⟨a0, ha01, ha02, rfl⟩ := z_ge (by omega) (by omega) ka.1 ka.2
          obtain ⟨b0, hb01, hb02, rfl⟩ := z_ge (by omega) (by omega) kb.1 kb.2
          obtain ⟨k, hk1, hk2, rfl⟩ := z_ge (by omega) (by omega) c7.1 c7.2
          have hab : a0 ≠ b0 := fun q => kab (by rw [q])
          refine lv_if_ne (tgt := 30) hx hb dX6_slowest_25 (by decide) (fun _ => ?_) (fun c => absurd c (by decide))
          refine lv_aload_n hx hb dX6_slowest_30 rfl (lv_at hl 0 rfl) ?_
          refine va_get (D := E.1) (ci := 6) (v := .ref (ad 0)) (C := RX6) (T := TX6) (N := 3) hx hb hts iwX6_slowest_X6_c_X6_slowest hown hG.1 hP 0 rfl rfl 0 (by decide) (hts (.fieldLink RX6 10 "FrettedStrings" "now" "LFrettedStrings$State;") (by decide +kernel)) (fun _ h9 => h9) rfl dX6_slowest_31 ?_
          refine lv_iload_n hx hb dX6_slowest_34 rfl (lv_at hl 1 rfl) ?_
          refine lv_iload_n hx hb dX6_slowest_35 rfl (lv_at hl 2 rfl) ?_
          refine lv_iload_n hx hb dX6_slowest_36 rfl (lv_at hl 3 rfl) ?_
          have hPc := zP_sub (w := [((ad 0), .inr (4, [.ref (ad 1), .ref (ad 5), .ref (ad 13), .ref (ad 16), .int (nI (X 13 2)), .int (nI (X 13 3))])), ((ad 5), .inr (5, [.ref (ad 6), .ref (ad 7), .ref (ad 8), .ref (ad 9), .ref (ad 10), .ref (ad 11), .ref (ad 12)])), ((ad 6), .inl (E.2.1, 4, .inl (fun zz => nI ((X 3) zz)))), ((ad 11), .inl (E.2.1, 4, .inl (fun zz => nI ((X 8) zz)))), ((ad 12), .inl (E.2.1, 48, .inl (fun zz => nI ((X 9) zz)))), ((ad 16), .inl (E.2.1, 5, .inl (fun zz => nI ((X 12) zz))))]) hP [1, 6, 7, 12, 13, 17] rfl
          refine z_rd (fun _ h => h) (va_runV (As := [.int (nI a0), .int (nI b0), .int (nI k)]) (rest := []) hF (c_X4_slowestBeat l E (ad 0) (ad 1) (ad 5) (ad 13) (ad 16) (X 13 2) (X 13 3) (ad 6) (ad 7) (ad 8) (ad 9) (ad 10) (ad 11) (ad 12) a0 b0 k (X 3) (X 8) (X 9) (X 12) (by first | assumption | omega) (by first | assumption | omega) (by first | assumption | omega) (by first | assumption | omega) (by first | assumption | omega) (by first | assumption | omega) (by first | assumption | omega)) (cwV 3 hts gX6_slowest_X4_slowestBeat rfl rfl rfl (by decide +kernel) ⟨Nat.le_of_ble_eq_true rfl, Nat.le_of_ble_eq_true rfl⟩) (z_preRV (va_recv hG.1 hP (ci := 4) (q0 := 1) rfl rfl) hPc hG) rfl rfl hl.1 rfl (lv_room (Nat.le_of_ble_eq_true rfl)) dX6_slowest_37 ⟨Nat.zero_le _, Nat.zero_le _⟩) (fun r8 hr8 => ?_)
          subst hr8
          exact hret _ _ _ dX6_slowest_40 (Or.inr (⟨a0, b0, k, (if (slL (X 3) (X 8) (X 9) ((X 12) 4) a0 b0 144).1 = 0 then -4 else if k = 0 then nI (slL (X 3) (X 8) (X 9) ((X 12) 4) a0 b0 144).1 else if k = 1 then nI (slL (X 3) (X 8) (X 9) ((X 12) 4) a0 b0 144).2.1 else nI (slL (X 3) (X 8) (X 9) ((X 12) 4) a0 b0 144).2.2), by first | rfl | (congr 1; omega), ⟨rfl, rfl, rfl, by omega, by omega, hab, by omega, rfl⟩⟩))
        · -- 22 f
          refine lv_if_ne (tgt := 30) hx hb dX6_slowest_25 (by decide) (fun c => absurd c (by decide)) (fun _ => ?_)
          refine lv_iconst (v := (-1)) hx hb dX6_slowest_28 (by decide) ?_
          exact hret _ _ _ dX6_slowest_29 (Or.inl ⟨rfl, by intro q; first | exact absurd q.1.1 (by assumption) | exact absurd q.1.2.1 (by assumption) | exact q.1.2.2 (by assumption) | exact absurd q.2 (by assumption) | exact absurd q.2.1 (by assumption) | exact absurd q.2.2 (by assumption)⟩)
    · -- 8 f
      refine lv_if_eq (tgt := 28) hx hb dX6_slowest_11 (by decide) (fun _ => ?_) (fun c => absurd c (by decide))
      refine lv_iconst (v := (-1)) hx hb dX6_slowest_28 (by decide) ?_
      exact hret _ _ _ dX6_slowest_29 (Or.inl ⟨rfl, by intro q; first | exact absurd q.1.1 (by assumption) | exact absurd q.1.2.1 (by assumption) | exact q.1.2.2 (by assumption) | exact absurd q.2 (by assumption) | exact absurd q.2.1 (by assumption) | exact absurd q.2.2 (by assumption)⟩)
  · -- 1 f
    refine lv_if_eq (tgt := 28) hx hb dX6_slowest_4 (by decide) (fun _ => ?_) (fun c => absurd c (by decide))
    refine lv_iconst (v := (-1)) hx hb dX6_slowest_28 (by decide) ?_
    exact hret _ _ _ dX6_slowest_29 (Or.inl ⟨rfl, by intro q; first | exact absurd q.1.1 (by assumption) | exact absurd q.1.2.1 (by assumption) | exact q.1.2.2 (by assumption) | exact absurd q.2 (by assumption) | exact absurd q.2.1 (by assumption) | exact absurd q.2.2 (by assumption)⟩)
theorem iwX6_beat_X6_c_X6_beat : ∀ w ∈ wsX60, w ∈ wsX6_beat := by decide +kernel
set_option maxHeartbeats 1000000 in
set_option maxRecDepth 100000 in
theorem c_X6_beat (l : Launch) (E : zE) (fs sc hi rw hz old : Nat) (a u b v : Int32) (adA adB adC adD ad : Nat → Nat) (XA XB XC XD X : Nat → Nat → Nat) (hn : X 13 0 ≤ 12) (hPb : ∀ i, i < 12 → X 0 i ≤ 2400) (hHb : ∀ i, i < 12 → X 1 i ≤ 2000) (hprn : ∀ i, i < 4 → X 4 i ≤ X 13 0) (hst : ∀ i, i < 4 → X 8 i ≤ 2400) (hte : ∀ i, i < 4 → X 3 i ≤ 100000000) (ham : ∀ i, i < 48 → X 9 i ≤ 1000000) (hse4 : X 12 4 ≤ 100000) : zR l yX6_beat wsX6_beat ({ frames := 3, cells := 0, slots := 0, locals := 68 }) E [.ref fs, .int a, .int u, .int b, .int v] ((fs, .inr (6, [.ref (ad 0), .ref hi, .ref sc])) :: ((ad 0), .inr (4, [.ref (ad 1), .ref (ad 5), .ref (ad 13), .ref (ad 16), .int (nI (X 13 2)), .int (nI (X 13 3))])) :: ((ad 1), .inr (1, [.int (nI (X 13 0)), .ref (ad 2), .ref (ad 3), .ref (ad 4)])) :: ((ad 2), .inl (E.2.1, 12, .inl (fun zz => nI ((X 0) zz)))) :: ((ad 3), .inl (E.2.1, 12, .inl (fun zz => nI ((X 1) zz)))) :: ((ad 4), .inl (E.2.1, 12, .inl (fun zz => nI ((X 2) zz)))) :: ((ad 5), .inr (5, [.ref (ad 6), .ref (ad 7), .ref (ad 8), .ref (ad 9), .ref (ad 10), .ref (ad 11), .ref (ad 12)])) :: ((ad 6), .inl (E.2.1, 4, .inl (fun zz => nI ((X 3) zz)))) :: ((ad 7), .inl (E.2.1, 4, .inl (fun zz => nI ((X 4) zz)))) :: ((ad 8), .inl (E.2.1, 4, .inl (fun zz => nI ((X 5) zz)))) :: ((ad 9), .inl (E.2.1, 4, .inl (fun zz => nI ((X 6) zz)))) :: ((ad 10), .inl (E.2.1, 4, .inl (fun zz => nI ((X 7) zz)))) :: ((ad 11), .inl (E.2.1, 4, .inl (fun zz => nI ((X 8) zz)))) :: ((ad 12), .inl (E.2.1, 48, .inl (fun zz => nI ((X 9) zz)))) :: ((ad 13), .inr (2, [.int (nI (X 13 1)), .ref (ad 14), .ref (ad 15)])) :: ((ad 14), .inl (E.2.1, 52, .inl (fun zz => nI ((X 10) zz)))) :: ((ad 15), .inl (E.2.1, 52, .inl (fun zz => nI ((X 11) zz)))) :: ((ad 16), .inl (E.2.1, 5, .inl (fun zz => nI ((X 12) zz)))) :: (hi, .inr (0, [.int (nI hz), .int (nI old), .ref rw])) :: (rw, .inl (E.2.2.2, 4, .inr (.inr (.inr (.inr (rr4 (adA 0) (adB 0) (adC 0) (adD 0))))))) :: (stW E adA XA ++ (stW E adB XB ++ (stW E adC XC ++ (stW E adD XD))))) (fun r => (r = (-1) ∧ (¬ (((nI 0 ≤ a ∧ a ≤ nI 3) ∧ (nI 0 ≤ b ∧ b ≤ nI 3) ∧ a ≠ b) ∧ (nI 1 ≤ u ∧ u ≤ nI 12) ∧ (nI 1 ≤ v ∧ v ≤ nI 12)))) ∨ (∃ (a0 : Nat) (n : Nat) (b0 : Nat) (m : Nat) (r9 : Int32), r = r9 ∧ (a = nI a0 ∧ u = nI n ∧ b = nI b0 ∧ v = nI m ∧ a0 < 4 ∧ b0 < 4 ∧ a0 ≠ b0 ∧ 1 ≤ n ∧ n ≤ 12 ∧ 1 ≤ m ∧ m ≤ 12 ∧ r9 = if beatV (X 3) (X 8) (X 9) (X 12 4) a0 n b0 m = 0 then -4 else nI (beatV (X 3) (X 8) (X 9) (X 12 4) a0 n b0 m)))) := by
  refine zR.start (own := RX6) rfl (by decide +kernel) rfl (Nat.le_of_ble_eq_true rfl) (fun _ _ => rfl) ?_
  intro pZ eZ sZ mZ argsZ belowZ methZ cZ QZ hF hret hP hG ls hl
  obtain ⟨hx, hb, hml, hown, hts⟩ := id hF
  have hl : lv_has ls 6 [(0, .ref fs), (1, .int a), (2, .int u), (3, .int b), (4, .int v)] := hl
  refine lv_iload_n hx hb dX6_beat_0 rfl (lv_at hl 1 rfl) ?_
  refine z_rd (fun _ h => h) (va_runS (As := [.int a]) (rest := []) hF (c_X6_isString l E a ) (va_cwS 1 hts gX6_beat_X6_isString rfl rfl rfl (by decide +kernel) ⟨Nat.le_of_ble_eq_true rfl, Nat.le_of_ble_eq_true rfl⟩) (z_preR (fun k q h => by simp at h) hG) rfl rfl hl.1 rfl (lv_room (Nat.le_of_ble_eq_true rfl)) dX6_beat_1 ⟨Nat.zero_le _, Nat.zero_le _⟩) (fun r1 hr1 => ?_)
  rcases hr1 with ⟨rfl, c2⟩ | ⟨rfl, c2⟩
  · -- 1 t
    have ka := c2
    refine lv_if_eq (tgt := 34) hx hb dX6_beat_4 (by decide) (fun c => absurd c (by decide)) (fun _ => ?_)
    refine lv_iload_n hx hb dX6_beat_7 rfl (lv_at hl 2 rfl) ?_
    refine z_rd (fun _ h => h) (va_runS (As := [.int u]) (rest := []) hF (c_X6_isMode l E u ) (va_cwS 1 hts gX6_beat_X6_isMode rfl rfl rfl (by decide +kernel) ⟨Nat.le_of_ble_eq_true rfl, Nat.le_of_ble_eq_true rfl⟩) (z_preR (fun k q h => by simp at h) hG) rfl rfl hl.1 rfl (lv_room (Nat.le_of_ble_eq_true rfl)) dX6_beat_8 ⟨Nat.zero_le _, Nat.zero_le _⟩) (fun r3 hr3 => ?_)
    rcases hr3 with ⟨rfl, c4⟩ | ⟨rfl, c4⟩
    · -- 8 t
      have kn := c4
      refine lv_if_eq (tgt := 34) hx hb dX6_beat_11 (by decide) (fun c => absurd c (by decide)) (fun _ => ?_)
      refine lv_iload_n hx hb dX6_beat_14 rfl (lv_at hl 3 rfl) ?_
      refine z_rd (fun _ h => h) (va_runS (As := [.int b]) (rest := []) hF (c_X6_isString l E b ) (va_cwS 1 hts gX6_beat_X6_isString rfl rfl rfl (by decide +kernel) ⟨Nat.le_of_ble_eq_true rfl, Nat.le_of_ble_eq_true rfl⟩) (z_preR (fun k q h => by simp at h) hG) rfl rfl hl.1 rfl (lv_room (Nat.le_of_ble_eq_true rfl)) dX6_beat_15 ⟨Nat.zero_le _, Nat.zero_le _⟩) (fun r5 hr5 => ?_)
      rcases hr5 with ⟨rfl, c6⟩ | ⟨rfl, c6⟩
      · -- 15 t
        have kb := c6
        refine lv_if_eq (tgt := 34) hx hb dX6_beat_18 (by decide) (fun c => absurd c (by decide)) (fun _ => ?_)
        refine lv_iload hx hb dX6_beat_21 (lv_at hl 4 rfl) ?_
        refine z_rd (fun _ h => h) (va_runS (As := [.int v]) (rest := []) hF (c_X6_isMode l E v ) (va_cwS 1 hts gX6_beat_X6_isMode rfl rfl rfl (by decide +kernel) ⟨Nat.le_of_ble_eq_true rfl, Nat.le_of_ble_eq_true rfl⟩) (z_preR (fun k q h => by simp at h) hG) rfl rfl hl.1 rfl (lv_room (Nat.le_of_ble_eq_true rfl)) dX6_beat_23 ⟨Nat.zero_le _, Nat.zero_le _⟩) (fun r7 hr7 => ?_)
        rcases hr7 with ⟨rfl, c8⟩ | ⟨rfl, c8⟩
        · -- 23 t
          have km := c8
          refine lv_if_eq (tgt := 34) hx hb dX6_beat_26 (by decide) (fun c => absurd c (by decide)) (fun _ => ?_)
          refine lv_iload_n hx hb dX6_beat_29 rfl (lv_at hl 1 rfl) ?_
          refine lv_iload_n hx hb dX6_beat_30 rfl (lv_at hl 3 rfl) ?_
          refine lv_icmp_ne (tgt := 36) hx hb dX6_beat_31 (by decide) (fun c9 => ?_) (fun c9 => ?_)
          · -- 31 t
            have kab := c9
            obtain ⟨a0, ha01, ha02, rfl⟩ := z_ge (by omega) (by omega) ka.1 ka.2
            obtain ⟨b0, hb01, hb02, rfl⟩ := z_ge (by omega) (by omega) kb.1 kb.2
            obtain ⟨n, hn1, hn2, rfl⟩ := z_ge (by omega) (by omega) kn.1 kn.2
            obtain ⟨m, hm1, hm2, rfl⟩ := z_ge (by omega) (by omega) km.1 km.2
            have hab : a0 ≠ b0 := fun q => kab (by rw [q])
            have hbb := beatV_b (T := X 3) (St := X 8) (Am := X 9) (h := X 12 4) (a := a0) (n := n) (b := b0) (m := m) hn2 hm2 (hte a0 (by omega)) (hte b0 (by omega))
            refine lv_aload_n hx hb dX6_beat_36 rfl (lv_at hl 0 rfl) ?_
            refine va_get (D := E.1) (ci := 6) (v := .ref (ad 0)) (C := RX6) (T := TX6) (N := 3) hx hb hts iwX6_beat_X6_c_X6_beat hown hG.1 hP 0 rfl rfl 0 (by decide) (hts (.fieldLink RX6 10 "FrettedStrings" "now" "LFrettedStrings$State;") (by decide +kernel)) (fun _ h9 => h9) rfl dX6_beat_37 ?_
            refine lv_iload_n hx hb dX6_beat_40 rfl (lv_at hl 1 rfl) ?_
            refine lv_iload_n hx hb dX6_beat_41 rfl (lv_at hl 2 rfl) ?_
            refine lv_iload_n hx hb dX6_beat_42 rfl (lv_at hl 3 rfl) ?_
            refine lv_iload hx hb dX6_beat_43 (lv_at hl 4 rfl) ?_
            have hPc := zP_sub (w := [((ad 0), .inr (4, [.ref (ad 1), .ref (ad 5), .ref (ad 13), .ref (ad 16), .int (nI (X 13 2)), .int (nI (X 13 3))])), ((ad 5), .inr (5, [.ref (ad 6), .ref (ad 7), .ref (ad 8), .ref (ad 9), .ref (ad 10), .ref (ad 11), .ref (ad 12)])), ((ad 6), .inl (E.2.1, 4, .inl (fun zz => nI ((X 3) zz)))), ((ad 11), .inl (E.2.1, 4, .inl (fun zz => nI ((X 8) zz)))), ((ad 12), .inl (E.2.1, 48, .inl (fun zz => nI ((X 9) zz)))), ((ad 16), .inl (E.2.1, 5, .inl (fun zz => nI ((X 12) zz))))]) hP [1, 6, 7, 12, 13, 17] rfl
            refine z_rd (fun _ h => h) (va_runV (As := [.int (nI a0), .int (nI n), .int (nI b0), .int (nI m)]) (rest := []) hF (c_X4_beatOf l E (ad 0) (ad 1) (ad 5) (ad 13) (ad 16) (X 13 2) (X 13 3) (ad 6) (ad 7) (ad 8) (ad 9) (ad 10) (ad 11) (ad 12) a0 n b0 m (X 3) (X 8) (X 9) (X 12) (by first | assumption | omega) (by first | assumption | omega) (by first | assumption | omega) (by first | assumption | omega) (by first | assumption | omega) (by first | assumption | omega) (by first | assumption | omega) (by first | assumption | omega) (by first | assumption | omega) (by first | assumption | omega)) (cwV 4 hts gX6_beat_X4_beatOf rfl rfl rfl (by decide +kernel) ⟨Nat.le_of_ble_eq_true rfl, Nat.le_of_ble_eq_true rfl⟩) (z_preRV (va_recv hG.1 hP (ci := 4) (q0 := 1) rfl rfl) hPc hG) rfl rfl hl.1 rfl (lv_room (Nat.le_of_ble_eq_true rfl)) dX6_beat_45 ⟨Nat.zero_le _, Nat.zero_le _⟩) (fun r10 hr10 => ?_)
            subst hr10
            refine lv_istore (lv' := [(5, .int (nI (beatV (X 3) (X 8) (X 9) ((X 12) 4) a0 n b0 m))), (0, .ref fs), (1, .int (nI a0)), (2, .int (nI n)), (3, .int (nI b0)), (4, .int (nI m))]) hx hb dX6_beat_48 hl (by decide) rfl (fun ls hl => ?_)
            refine lv_iload hx hb dX6_beat_50 (lv_at hl 0 rfl) ?_
            refine z_if_le (a := beatV (X 3) (X 8) (X 9) ((X 12) 4) a0 n b0 m) (tgt := 60) hx hb dX6_beat_52 (by decide) (by omega) (fun c11 => ?_) (fun c11 => ?_)
            · -- 52 t
              refine lv_bipush (v := (-4)) hx hb dX6_beat_60 (by decide) ?_
              exact hret _ _ _ dX6_beat_62 (Or.inr (⟨a0, n, b0, m, (-4), rfl, ⟨rfl, rfl, rfl, rfl, by omega, by omega, hab, by omega, by omega, by omega, by omega, by first | exact (if_pos (by omega)).symm | exact (if_neg (by omega)).symm⟩⟩))
            · -- 52 f
              refine lv_iload hx hb dX6_beat_55 (lv_at hl 0 rfl) ?_
              refine lv_goto (tgt := 62) hx hb dX6_beat_57 (by decide) ?_
              exact hret _ _ _ dX6_beat_62 (Or.inr (⟨a0, n, b0, m, (nI (beatV (X 3) (X 8) (X 9) ((X 12) 4) a0 n b0 m)), by first | rfl | (congr 1; omega), ⟨rfl, rfl, rfl, rfl, by omega, by omega, hab, by omega, by omega, by omega, by omega, by first | exact (if_pos (by omega)).symm | exact (if_neg (by omega)).symm⟩⟩))
          · -- 31 f
            refine lv_iconst (v := (-1)) hx hb dX6_beat_34 (by decide) ?_
            exact hret _ _ _ dX6_beat_35 (Or.inl ⟨rfl, by intro q; first | exact absurd q.1.1 (by assumption) | exact absurd q.1.2.1 (by assumption) | exact q.1.2.2 (by assumption) | exact absurd q.2 (by assumption) | exact absurd q.2.1 (by assumption) | exact absurd q.2.2 (by assumption)⟩)
        · -- 23 f
          refine lv_if_eq (tgt := 34) hx hb dX6_beat_26 (by decide) (fun _ => ?_) (fun c => absurd c (by decide))
          refine lv_iconst (v := (-1)) hx hb dX6_beat_34 (by decide) ?_
          exact hret _ _ _ dX6_beat_35 (Or.inl ⟨rfl, by intro q; first | exact absurd q.1.1 (by assumption) | exact absurd q.1.2.1 (by assumption) | exact q.1.2.2 (by assumption) | exact absurd q.2 (by assumption) | exact absurd q.2.1 (by assumption) | exact absurd q.2.2 (by assumption)⟩)
      · -- 15 f
        refine lv_if_eq (tgt := 34) hx hb dX6_beat_18 (by decide) (fun _ => ?_) (fun c => absurd c (by decide))
        refine lv_iconst (v := (-1)) hx hb dX6_beat_34 (by decide) ?_
        exact hret _ _ _ dX6_beat_35 (Or.inl ⟨rfl, by intro q; first | exact absurd q.1.1 (by assumption) | exact absurd q.1.2.1 (by assumption) | exact q.1.2.2 (by assumption) | exact absurd q.2 (by assumption) | exact absurd q.2.1 (by assumption) | exact absurd q.2.2 (by assumption)⟩)
    · -- 8 f
      refine lv_if_eq (tgt := 34) hx hb dX6_beat_11 (by decide) (fun _ => ?_) (fun c => absurd c (by decide))
      refine lv_iconst (v := (-1)) hx hb dX6_beat_34 (by decide) ?_
      exact hret _ _ _ dX6_beat_35 (Or.inl ⟨rfl, by intro q; first | exact absurd q.1.1 (by assumption) | exact absurd q.1.2.1 (by assumption) | exact q.1.2.2 (by assumption) | exact absurd q.2 (by assumption) | exact absurd q.2.1 (by assumption) | exact absurd q.2.2 (by assumption)⟩)
  · -- 1 f
    refine lv_if_eq (tgt := 34) hx hb dX6_beat_4 (by decide) (fun _ => ?_) (fun c => absurd c (by decide))
    refine lv_iconst (v := (-1)) hx hb dX6_beat_34 (by decide) ?_
    exact hret _ _ _ dX6_beat_35 (Or.inl ⟨rfl, by intro q; first | exact absurd q.1.1 (by assumption) | exact absurd q.1.2.1 (by assumption) | exact q.1.2.2 (by assumption) | exact absurd q.2 (by assumption) | exact absurd q.2.1 (by assumption) | exact absurd q.2.2 (by assumption)⟩)
