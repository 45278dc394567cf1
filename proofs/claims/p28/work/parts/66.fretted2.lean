theorem iwX6_fretInfo_X6_c_X6_fretInfo : ∀ w ∈ wsX60, w ∈ wsX6_fretInfo := by decide +kernel
theorem iwX6_fretInfo_X4_c_X6_fretInfo : ∀ w ∈ wsX40, w ∈ wsX6_fretInfo := by decide +kernel
set_option maxHeartbeats 1000000 in
set_option maxRecDepth 100000 in
theorem c_X6_fretInfo (l : Launch) (E : zE) (fs sc hi rw hz old : Nat) (a v : Int32) (adA adB adC adD ad : Nat → Nat) (XA XB XC XD X : Nat → Nat → Nat) (hn : X 13 0 ≤ 12) (hPb : ∀ i, i < 12 → X 0 i ≤ 2400) (hHb : ∀ i, i < 12 → X 1 i ≤ 2000) (hprn : ∀ i, i < 4 → X 4 i ≤ X 13 0) (hst : ∀ i, i < 4 → X 8 i ≤ 2400) (hson : ∀ i, i < 4 → X 7 i ≤ X 13 0) : zR l yX6_fretInfo wsX6_fretInfo ({ frames := 5, cells := 0, slots := 0, locals := 114 }) E [.ref fs, .int a, .int v] ((fs, .inr (6, [.ref (ad 0), .ref hi, .ref sc])) :: ((ad 0), .inr (4, [.ref (ad 1), .ref (ad 5), .ref (ad 13), .ref (ad 16), .int (nI (X 13 2)), .int (nI (X 13 3))])) :: ((ad 1), .inr (1, [.int (nI (X 13 0)), .ref (ad 2), .ref (ad 3), .ref (ad 4)])) :: ((ad 2), .inl (E.2.1, 12, .inl (fun zz => nI ((X 0) zz)))) :: ((ad 3), .inl (E.2.1, 12, .inl (fun zz => nI ((X 1) zz)))) :: ((ad 4), .inl (E.2.1, 12, .inl (fun zz => nI ((X 2) zz)))) :: ((ad 5), .inr (5, [.ref (ad 6), .ref (ad 7), .ref (ad 8), .ref (ad 9), .ref (ad 10), .ref (ad 11), .ref (ad 12)])) :: ((ad 6), .inl (E.2.1, 4, .inl (fun zz => nI ((X 3) zz)))) :: ((ad 7), .inl (E.2.1, 4, .inl (fun zz => nI ((X 4) zz)))) :: ((ad 8), .inl (E.2.1, 4, .inl (fun zz => nI ((X 5) zz)))) :: ((ad 9), .inl (E.2.1, 4, .inl (fun zz => nI ((X 6) zz)))) :: ((ad 10), .inl (E.2.1, 4, .inl (fun zz => nI ((X 7) zz)))) :: ((ad 11), .inl (E.2.1, 4, .inl (fun zz => nI ((X 8) zz)))) :: ((ad 12), .inl (E.2.1, 48, .inl (fun zz => nI ((X 9) zz)))) :: ((ad 13), .inr (2, [.int (nI (X 13 1)), .ref (ad 14), .ref (ad 15)])) :: ((ad 14), .inl (E.2.1, 52, .inl (fun zz => nI ((X 10) zz)))) :: ((ad 15), .inl (E.2.1, 52, .inl (fun zz => nI ((X 11) zz)))) :: ((ad 16), .inl (E.2.1, 5, .inl (fun zz => nI ((X 12) zz)))) :: (hi, .inr (0, [.int (nI hz), .int (nI old), .ref rw])) :: (rw, .inl (E.2.2.2, 4, .inr (.inr (.inr (.inr (rr4 (adA 0) (adB 0) (adC 0) (adD 0))))))) :: (stW E adA XA ++ (stW E adB XB ++ (stW E adC XC ++ (stW E adD XD))))) (fun r => (r = (-1) ∧ (¬ ((nI 1 ≤ a ∧ a ≤ nI (X 13 0)) ∧ (nI 0 ≤ v ∧ v ≤ nI 5)))) ∨ (∃ (f : Nat) (w : Nat) (r9 : Int32), r = r9 ∧ (a = nI f ∧ v = nI w ∧ 1 ≤ f ∧ f ≤ X 13 0 ∧ w ≤ 5 ∧ r9 = fiX X f w))) := by
  refine zR.start (own := RX6) rfl (by decide +kernel) rfl (Nat.le_of_ble_eq_true rfl) (fun _ _ => rfl) ?_
  intro pZ eZ sZ mZ argsZ belowZ methZ cZ QZ hF hret hP hG ls hl
  obtain ⟨hx, hb, hml, hown, hts⟩ := id hF
  have hl : lv_has ls 3 [(0, .ref fs), (1, .int a), (2, .int v)] := hl
  refine lv_aload_n hx hb dX6_fretInfo_0 rfl (lv_at hl 0 rfl) ?_
  refine va_get (D := E.1) (ci := 6) (v := .ref (ad 0)) (C := RX6) (T := TX6) (N := 3) hx hb hts iwX6_fretInfo_X6_c_X6_fretInfo hown hG.1 hP 0 rfl rfl 0 (by decide) (hts (.fieldLink RX6 10 "FrettedStrings" "now" "LFrettedStrings$State;") (by decide +kernel)) (fun _ h9 => h9) rfl dX6_fretInfo_1 ?_
  refine va_get (D := E.1) (ci := 4) (v := .ref (ad 1)) (C := RX4) (T := TX4) (N := 6) hx hb hts iwX6_fretInfo_X4_c_X6_fretInfo hown hG.1 hP 1 rfl rfl 0 (by decide) (hts (.fieldLink RX6 34 "FrettedStrings$State" "neck" "LFrettedStrings$Neck;") (by decide +kernel)) (fun _ h9 => h9) rfl dX6_fretInfo_4 ?_
  refine lv_iload_n hx hb dX6_fretInfo_7 rfl (lv_at hl 1 rfl) ?_
  have hPc := zP_sub (w := [((ad 1), .inr (1, [.int (nI (X 13 0)), .ref (ad 2), .ref (ad 3), .ref (ad 4)]))]) hP [2] rfl
  refine z_rd (fun _ h => h) (va_runV (As := [.int a]) (rest := []) hF (c_X1_has l E (ad 1) (ad 2) (ad 3) (ad 4) (X 13 0) a ) (cwV 1 hts gX6_fretInfo_X1_has rfl rfl rfl (by decide +kernel) ⟨Nat.le_of_ble_eq_true rfl, Nat.le_of_ble_eq_true rfl⟩) (z_preRV (va_recv hG.1 hP (ci := 1) (q0 := 2) rfl rfl) hPc hG) rfl rfl hl.1 rfl (lv_room (Nat.le_of_ble_eq_true rfl)) dX6_fretInfo_8 ⟨Nat.zero_le _, Nat.zero_le _⟩) (fun r1 hr1 => ?_)
  rcases hr1 with ⟨rfl, c2⟩ | ⟨rfl, c2⟩
  · -- 8 t
    obtain ⟨f, hf1, hf2, rfl⟩ := z_ge (by omega) (by omega) c2.1 c2.2
    refine lv_if_ne (tgt := 16) hx hb dX6_fretInfo_11 (by decide) (fun _ => ?_) (fun c => absurd c (by decide))
    refine lv_iload_n hx hb dX6_fretInfo_16 rfl (lv_at hl 2 rfl) ?_
    rcases z_tab v 5 (by decide) with c3 | ⟨kZ, c3, rfl⟩
    · -- 17 out
      refine lv_tableOut (tgt := 128) hx hb dX6_fretInfo_17 c3 (by decide) ?_
      refine lv_iconst (v := (-1)) hx hb dX6_fretInfo_128 (by decide) ?_
      exact hret _ _ _ dX6_fretInfo_129 (Or.inl ⟨rfl, by intro q; exact tab_o 5 (by omega) c3 (by first | exact q.2 | exact q.2.2)⟩)
    · -- 17 in
      obtain hk | hk | hk | hk | hk | hk : kZ = 0 ∨ kZ = 1 ∨ kZ = 2 ∨ kZ = 3 ∨ kZ = 4 ∨ kZ = 5 := by omega
      · -- 17 case 0
        subst hk
        refine lv_tableIn (tgt := 56) (off := 39) hx hb dX6_fretInfo_17 (by decide) (by decide) (by decide) (by decide) ?_
        have hl : lv_has ls 3 [(0, .ref fs), (1, .int (nI f)), (2, .int (nI 0))] := hl
        refine lv_aload_n hx hb dX6_fretInfo_56 rfl (lv_at hl 0 rfl) ?_
        refine va_get (D := E.1) (ci := 6) (v := .ref (ad 0)) (C := RX6) (T := TX6) (N := 3) hx hb hts iwX6_fretInfo_X6_c_X6_fretInfo hown hG.1 hP 0 rfl rfl 0 (by decide) (hts (.fieldLink RX6 10 "FrettedStrings" "now" "LFrettedStrings$State;") (by decide +kernel)) (fun _ h9 => h9) rfl dX6_fretInfo_57 ?_
        refine va_get (D := E.1) (ci := 4) (v := .ref (ad 1)) (C := RX4) (T := TX4) (N := 6) hx hb hts iwX6_fretInfo_X4_c_X6_fretInfo hown hG.1 hP 1 rfl rfl 0 (by decide) (hts (.fieldLink RX6 34 "FrettedStrings$State" "neck" "LFrettedStrings$Neck;") (by decide +kernel)) (fun _ h9 => h9) rfl dX6_fretInfo_60 ?_
        refine lv_iload_n hx hb dX6_fretInfo_63 rfl (lv_at hl 1 rfl) ?_
        have hPc := zP_sub (w := [((ad 1), .inr (1, [.int (nI (X 13 0)), .ref (ad 2), .ref (ad 3), .ref (ad 4)])), ((ad 2), .inl (E.2.1, 12, .inl (fun zz => nI ((X 0) zz))))]) hP [2, 3] rfl
        refine z_rd (fun _ h => h) (va_runV (As := [.int (nI f)]) (rest := []) hF (c_X1_positionOf l E (ad 1) (ad 2) (ad 3) (ad 4) (X 13 0) f (X 0) (by first | assumption | omega) (by first | assumption | omega)) (cwV 1 hts gX6_fretInfo_X1_positionOf rfl rfl rfl (by decide +kernel) ⟨Nat.le_of_ble_eq_true rfl, Nat.le_of_ble_eq_true rfl⟩) (z_preRV (va_recv hG.1 hP (ci := 1) (q0 := 2) rfl rfl) hPc hG) rfl rfl hl.1 rfl (lv_room (Nat.le_of_ble_eq_true rfl)) dX6_fretInfo_64 ⟨Nat.zero_le _, Nat.zero_le _⟩) (fun r4 hr4 => ?_)
        subst hr4
        exact hret _ _ _ dX6_fretInfo_67 (Or.inr (⟨f, 0, (nI (atN (X 0) f)), by first | rfl | (congr 1; omega), ⟨rfl, rfl, by omega, by omega, by omega, by unfold fiX; (repeat' split) <;> first | rfl | (exfalso; omega)⟩⟩))
      · -- 17 case 1
        subst hk
        refine lv_tableIn (tgt := 68) (off := 51) hx hb dX6_fretInfo_17 (by decide) (by decide) (by decide) (by decide) ?_
        have hl : lv_has ls 3 [(0, .ref fs), (1, .int (nI f)), (2, .int (nI 1))] := hl
        refine lv_aload_n hx hb dX6_fretInfo_68 rfl (lv_at hl 0 rfl) ?_
        refine va_get (D := E.1) (ci := 6) (v := .ref (ad 0)) (C := RX6) (T := TX6) (N := 3) hx hb hts iwX6_fretInfo_X6_c_X6_fretInfo hown hG.1 hP 0 rfl rfl 0 (by decide) (hts (.fieldLink RX6 10 "FrettedStrings" "now" "LFrettedStrings$State;") (by decide +kernel)) (fun _ h9 => h9) rfl dX6_fretInfo_69 ?_
        refine va_get (D := E.1) (ci := 4) (v := .ref (ad 1)) (C := RX4) (T := TX4) (N := 6) hx hb hts iwX6_fretInfo_X4_c_X6_fretInfo hown hG.1 hP 1 rfl rfl 0 (by decide) (hts (.fieldLink RX6 34 "FrettedStrings$State" "neck" "LFrettedStrings$Neck;") (by decide +kernel)) (fun _ h9 => h9) rfl dX6_fretInfo_72 ?_
        refine lv_iload_n hx hb dX6_fretInfo_75 rfl (lv_at hl 1 rfl) ?_
        have hPc := zP_sub (w := [((ad 1), .inr (1, [.int (nI (X 13 0)), .ref (ad 2), .ref (ad 3), .ref (ad 4)])), ((ad 3), .inl (E.2.1, 12, .inl (fun zz => nI ((X 1) zz))))]) hP [2, 4] rfl
        refine z_rd (fun _ h => h) (va_runV (As := [.int (nI f)]) (rest := []) hF (c_X1_heightOf l E (ad 1) (ad 2) (ad 3) (ad 4) (X 13 0) f (X 1) (by first | assumption | omega) (by first | assumption | omega)) (cwV 1 hts gX6_fretInfo_X1_heightOf rfl rfl rfl (by decide +kernel) ⟨Nat.le_of_ble_eq_true rfl, Nat.le_of_ble_eq_true rfl⟩) (z_preRV (va_recv hG.1 hP (ci := 1) (q0 := 2) rfl rfl) hPc hG) rfl rfl hl.1 rfl (lv_room (Nat.le_of_ble_eq_true rfl)) dX6_fretInfo_76 ⟨Nat.zero_le _, Nat.zero_le _⟩) (fun r5 hr5 => ?_)
        subst hr5
        exact hret _ _ _ dX6_fretInfo_79 (Or.inr (⟨f, 1, (nI (atN (X 1) f)), by first | rfl | (congr 1; omega), ⟨rfl, rfl, by omega, by omega, by omega, by unfold fiX; (repeat' split) <;> first | rfl | (exfalso; omega)⟩⟩))
      · -- 17 case 2
        subst hk
        refine lv_tableIn (tgt := 80) (off := 63) hx hb dX6_fretInfo_17 (by decide) (by decide) (by decide) (by decide) ?_
        have hl : lv_has ls 3 [(0, .ref fs), (1, .int (nI f)), (2, .int (nI 2))] := hl
        refine lv_aload_n hx hb dX6_fretInfo_80 rfl (lv_at hl 0 rfl) ?_
        refine va_get (D := E.1) (ci := 6) (v := .ref (ad 0)) (C := RX6) (T := TX6) (N := 3) hx hb hts iwX6_fretInfo_X6_c_X6_fretInfo hown hG.1 hP 0 rfl rfl 0 (by decide) (hts (.fieldLink RX6 10 "FrettedStrings" "now" "LFrettedStrings$State;") (by decide +kernel)) (fun _ h9 => h9) rfl dX6_fretInfo_81 ?_
        refine va_get (D := E.1) (ci := 4) (v := .ref (ad 1)) (C := RX4) (T := TX4) (N := 6) hx hb hts iwX6_fretInfo_X4_c_X6_fretInfo hown hG.1 hP 1 rfl rfl 0 (by decide) (hts (.fieldLink RX6 34 "FrettedStrings$State" "neck" "LFrettedStrings$Neck;") (by decide +kernel)) (fun _ h9 => h9) rfl dX6_fretInfo_84 ?_
        refine lv_iload_n hx hb dX6_fretInfo_87 rfl (lv_at hl 1 rfl) ?_
        have hPc := zP_sub (w := [((ad 1), .inr (1, [.int (nI (X 13 0)), .ref (ad 2), .ref (ad 3), .ref (ad 4)])), ((ad 4), .inl (E.2.1, 12, .inl (fun zz => nI ((X 2) zz))))]) hP [2, 5] rfl
        refine z_rd (fun _ h => h) (va_runV (As := [.int (nI f)]) (rest := []) hF (c_X1_wearOf l E (ad 1) (ad 2) (ad 3) (ad 4) (X 13 0) f (X 2) (by first | assumption | omega) (by first | assumption | omega)) (cwV 1 hts gX6_fretInfo_X1_wearOf rfl rfl rfl (by decide +kernel) ⟨Nat.le_of_ble_eq_true rfl, Nat.le_of_ble_eq_true rfl⟩) (z_preRV (va_recv hG.1 hP (ci := 1) (q0 := 2) rfl rfl) hPc hG) rfl rfl hl.1 rfl (lv_room (Nat.le_of_ble_eq_true rfl)) dX6_fretInfo_88 ⟨Nat.zero_le _, Nat.zero_le _⟩) (fun r6 hr6 => ?_)
        subst hr6
        exact hret _ _ _ dX6_fretInfo_91 (Or.inr (⟨f, 2, (nI (atN (X 2) f)), by first | rfl | (congr 1; omega), ⟨rfl, rfl, by omega, by omega, by omega, by unfold fiX; (repeat' split) <;> first | rfl | (exfalso; omega)⟩⟩))
      · -- 17 case 3
        subst hk
        refine lv_tableIn (tgt := 92) (off := 75) hx hb dX6_fretInfo_17 (by decide) (by decide) (by decide) (by decide) ?_
        have hl : lv_has ls 3 [(0, .ref fs), (1, .int (nI f)), (2, .int (nI 3))] := hl
        refine lv_aload_n hx hb dX6_fretInfo_92 rfl (lv_at hl 0 rfl) ?_
        refine va_get (D := E.1) (ci := 6) (v := .ref (ad 0)) (C := RX6) (T := TX6) (N := 3) hx hb hts iwX6_fretInfo_X6_c_X6_fretInfo hown hG.1 hP 0 rfl rfl 0 (by decide) (hts (.fieldLink RX6 10 "FrettedStrings" "now" "LFrettedStrings$State;") (by decide +kernel)) (fun _ h9 => h9) rfl dX6_fretInfo_93 ?_
        refine va_get (D := E.1) (ci := 4) (v := .ref (ad 5)) (C := RX4) (T := TX4) (N := 6) hx hb hts iwX6_fretInfo_X4_c_X6_fretInfo hown hG.1 hP 1 rfl rfl 1 (by decide) (hts (.fieldLink RX6 76 "FrettedStrings$State" "strings" "LFrettedStrings$Strings;") (by decide +kernel)) (fun _ h9 => h9) rfl dX6_fretInfo_96 ?_
        refine lv_iload_n hx hb dX6_fretInfo_99 rfl (lv_at hl 1 rfl) ?_
        have hPc := zP_sub (w := [((ad 5), .inr (5, [.ref (ad 6), .ref (ad 7), .ref (ad 8), .ref (ad 9), .ref (ad 10), .ref (ad 11), .ref (ad 12)])), ((ad 7), .inl (E.2.1, 4, .inl (fun zz => nI ((X 4) zz))))]) hP [6, 8] rfl
        refine z_rd (fun _ h => h) (va_runV (As := [.int (nI f)]) (rest := []) hF (c_X5_maskPressedAt l E (ad 5) (ad 6) (ad 7) (ad 8) (ad 9) (ad 10) (ad 11) (ad 12) f (X 4) (fun i hi => Nat.le_trans (hprn i hi) hn) (by omega)) (cwV 1 hts gX6_fretInfo_X5_maskPressedAt rfl rfl rfl (by decide +kernel) ⟨Nat.le_of_ble_eq_true rfl, Nat.le_of_ble_eq_true rfl⟩) (z_preRV (va_recv hG.1 hP (ci := 5) (q0 := 6) rfl rfl) hPc hG) rfl rfl hl.1 rfl (lv_room (Nat.le_of_ble_eq_true rfl)) dX6_fretInfo_100 ⟨Nat.zero_le _, Nat.zero_le _⟩) (fun r7 hr7 => ?_)
        subst hr7
        exact hret _ _ _ dX6_fretInfo_103 (Or.inr (⟨f, 3, (nI (maskL (X 4) f 4)), by first | rfl | (congr 1; omega), ⟨rfl, rfl, by omega, by omega, by omega, by unfold fiX; (repeat' split) <;> first | rfl | (exfalso; omega)⟩⟩))
      · -- 17 case 4
        subst hk
        refine lv_tableIn (tgt := 104) (off := 87) hx hb dX6_fretInfo_17 (by decide) (by decide) (by decide) (by decide) ?_
        have hl : lv_has ls 3 [(0, .ref fs), (1, .int (nI f)), (2, .int (nI 4))] := hl
        refine lv_aload_n hx hb dX6_fretInfo_104 rfl (lv_at hl 0 rfl) ?_
        refine va_get (D := E.1) (ci := 6) (v := .ref (ad 0)) (C := RX6) (T := TX6) (N := 3) hx hb hts iwX6_fretInfo_X6_c_X6_fretInfo hown hG.1 hP 0 rfl rfl 0 (by decide) (hts (.fieldLink RX6 10 "FrettedStrings" "now" "LFrettedStrings$State;") (by decide +kernel)) (fun _ h9 => h9) rfl dX6_fretInfo_105 ?_
        refine va_get (D := E.1) (ci := 4) (v := .ref (ad 5)) (C := RX4) (T := TX4) (N := 6) hx hb hts iwX6_fretInfo_X4_c_X6_fretInfo hown hG.1 hP 1 rfl rfl 1 (by decide) (hts (.fieldLink RX6 76 "FrettedStrings$State" "strings" "LFrettedStrings$Strings;") (by decide +kernel)) (fun _ h9 => h9) rfl dX6_fretInfo_108 ?_
        refine lv_iload_n hx hb dX6_fretInfo_111 rfl (lv_at hl 1 rfl) ?_
        have hPc := zP_sub (w := [((ad 5), .inr (5, [.ref (ad 6), .ref (ad 7), .ref (ad 8), .ref (ad 9), .ref (ad 10), .ref (ad 11), .ref (ad 12)])), ((ad 10), .inl (E.2.1, 4, .inl (fun zz => nI ((X 7) zz))))]) hP [6, 11] rfl
        refine z_rd (fun _ h => h) (va_runV (As := [.int (nI f)]) (rest := []) hF (c_X5_maskSoundingFrom l E (ad 5) (ad 6) (ad 7) (ad 8) (ad 9) (ad 10) (ad 11) (ad 12) f (X 7) (fun i hi => Nat.le_trans (hson i hi) hn) (by omega)) (cwV 1 hts gX6_fretInfo_X5_maskSoundingFrom rfl rfl rfl (by decide +kernel) ⟨Nat.le_of_ble_eq_true rfl, Nat.le_of_ble_eq_true rfl⟩) (z_preRV (va_recv hG.1 hP (ci := 5) (q0 := 6) rfl rfl) hPc hG) rfl rfl hl.1 rfl (lv_room (Nat.le_of_ble_eq_true rfl)) dX6_fretInfo_112 ⟨Nat.zero_le _, Nat.zero_le _⟩) (fun r8 hr8 => ?_)
        subst hr8
        exact hret _ _ _ dX6_fretInfo_115 (Or.inr (⟨f, 4, (nI (maskL (X 7) f 4)), by first | rfl | (congr 1; omega), ⟨rfl, rfl, by omega, by omega, by omega, by unfold fiX; (repeat' split) <;> first | rfl | (exfalso; omega)⟩⟩))
      · -- 17 case 5
        subst hk
        refine lv_tableIn (tgt := 116) (off := 99) hx hb dX6_fretInfo_17 (by decide) (by decide) (by decide) (by decide) ?_
        have hl : lv_has ls 3 [(0, .ref fs), (1, .int (nI f)), (2, .int (nI 5))] := hl
        refine lv_aload_n hx hb dX6_fretInfo_116 rfl (lv_at hl 0 rfl) ?_
        refine va_get (D := E.1) (ci := 6) (v := .ref (ad 0)) (C := RX6) (T := TX6) (N := 3) hx hb hts iwX6_fretInfo_X6_c_X6_fretInfo hown hG.1 hP 0 rfl rfl 0 (by decide) (hts (.fieldLink RX6 10 "FrettedStrings" "now" "LFrettedStrings$State;") (by decide +kernel)) (fun _ h9 => h9) rfl dX6_fretInfo_117 ?_
        refine va_get (D := E.1) (ci := 4) (v := .ref (ad 1)) (C := RX4) (T := TX4) (N := 6) hx hb hts iwX6_fretInfo_X4_c_X6_fretInfo hown hG.1 hP 1 rfl rfl 0 (by decide) (hts (.fieldLink RX6 34 "FrettedStrings$State" "neck" "LFrettedStrings$Neck;") (by decide +kernel)) (fun _ h9 => h9) rfl dX6_fretInfo_120 ?_
        refine lv_iload_n hx hb dX6_fretInfo_123 rfl (lv_at hl 1 rfl) ?_
        have hPc := zP_sub (w := [((ad 1), .inr (1, [.int (nI (X 13 0)), .ref (ad 2), .ref (ad 3), .ref (ad 4)])), ((ad 2), .inl (E.2.1, 12, .inl (fun zz => nI ((X 0) zz)))), ((ad 3), .inl (E.2.1, 12, .inl (fun zz => nI ((X 1) zz))))]) hP [2, 3, 4] rfl
        refine z_rd (fun _ h => h) (va_runV (As := [.int (nI f)]) (rest := []) hF (c_X1_sourceFor l E (ad 1) (ad 2) (ad 3) (ad 4) (X 13 0) f (X 0) (X 1) (by first | assumption | omega) (by first | assumption | omega) (by first | assumption | omega) (by first | assumption | omega)) (cwV 1 hts gX6_fretInfo_X1_sourceFor rfl rfl rfl (by decide +kernel) ⟨Nat.le_of_ble_eq_true rfl, Nat.le_of_ble_eq_true rfl⟩) (z_preRV (va_recv hG.1 hP (ci := 1) (q0 := 2) rfl rfl) hPc hG) rfl rfl hl.1 rfl (lv_room (Nat.le_of_ble_eq_true rfl)) dX6_fretInfo_124 ⟨Nat.zero_le _, Nat.zero_le _⟩) (fun r9 hr9 => ?_)
        subst hr9
        exact hret _ _ _ dX6_fretInfo_127 (Or.inr (⟨f, 5, (nI (srcN (X 0) (X 1) (X 13 0) f)), by first | rfl | (congr 1; omega), ⟨rfl, rfl, by omega, by omega, by omega, by unfold fiX; (repeat' split) <;> first | rfl | (exfalso; omega)⟩⟩))
  · -- 8 f
    refine lv_if_ne (tgt := 16) hx hb dX6_fretInfo_11 (by decide) (fun c => absurd c (by decide)) (fun _ => ?_)
    refine lv_iconst (v := (-1)) hx hb dX6_fretInfo_14 (by decide) ?_
    exact hret _ _ _ dX6_fretInfo_15 (Or.inl ⟨rfl, by intro q; first | exact absurd q (by assumption) | exact absurd q.1 (by assumption) | exact absurd q.2 (by assumption) | exact absurd q.2.1 (by assumption) | exact absurd q.2.2 (by assumption)⟩)
theorem iwX6_mostFor_X6_c_X6_mostFor : ∀ w ∈ wsX60, w ∈ wsX6_mostFor := by decide +kernel
theorem iwX6_mostFor_X4_c_X6_mostFor : ∀ w ∈ wsX40, w ∈ wsX6_mostFor := by decide +kernel
set_option maxHeartbeats 1000000 in
set_option maxRecDepth 100000 in
theorem c_X6_mostFor (l : Launch) (E : zE) (fs sc hi rw hz old : Nat) (a : Int32) (adA adB adC adD ad : Nat → Nat) (XA XB XC XD X : Nat → Nat → Nat) (hn : X 13 0 ≤ 12) (hPb : ∀ i, i < 12 → X 0 i ≤ 2400) (hHb : ∀ i, i < 12 → X 1 i ≤ 2000) (hprn : ∀ i, i < 4 → X 4 i ≤ X 13 0) (hst : ∀ i, i < 4 → X 8 i ≤ 2400) : zR l yX6_mostFor wsX6_mostFor ({ frames := 5, cells := 0, slots := 0, locals := 112 }) E [.ref fs, .int a] ((fs, .inr (6, [.ref (ad 0), .ref hi, .ref sc])) :: ((ad 0), .inr (4, [.ref (ad 1), .ref (ad 5), .ref (ad 13), .ref (ad 16), .int (nI (X 13 2)), .int (nI (X 13 3))])) :: ((ad 1), .inr (1, [.int (nI (X 13 0)), .ref (ad 2), .ref (ad 3), .ref (ad 4)])) :: ((ad 2), .inl (E.2.1, 12, .inl (fun zz => nI ((X 0) zz)))) :: ((ad 3), .inl (E.2.1, 12, .inl (fun zz => nI ((X 1) zz)))) :: ((ad 4), .inl (E.2.1, 12, .inl (fun zz => nI ((X 2) zz)))) :: ((ad 5), .inr (5, [.ref (ad 6), .ref (ad 7), .ref (ad 8), .ref (ad 9), .ref (ad 10), .ref (ad 11), .ref (ad 12)])) :: ((ad 6), .inl (E.2.1, 4, .inl (fun zz => nI ((X 3) zz)))) :: ((ad 7), .inl (E.2.1, 4, .inl (fun zz => nI ((X 4) zz)))) :: ((ad 8), .inl (E.2.1, 4, .inl (fun zz => nI ((X 5) zz)))) :: ((ad 9), .inl (E.2.1, 4, .inl (fun zz => nI ((X 6) zz)))) :: ((ad 10), .inl (E.2.1, 4, .inl (fun zz => nI ((X 7) zz)))) :: ((ad 11), .inl (E.2.1, 4, .inl (fun zz => nI ((X 8) zz)))) :: ((ad 12), .inl (E.2.1, 48, .inl (fun zz => nI ((X 9) zz)))) :: ((ad 13), .inr (2, [.int (nI (X 13 1)), .ref (ad 14), .ref (ad 15)])) :: ((ad 14), .inl (E.2.1, 52, .inl (fun zz => nI ((X 10) zz)))) :: ((ad 15), .inl (E.2.1, 52, .inl (fun zz => nI ((X 11) zz)))) :: ((ad 16), .inl (E.2.1, 5, .inl (fun zz => nI ((X 12) zz)))) :: (hi, .inr (0, [.int (nI hz), .int (nI old), .ref rw])) :: (rw, .inl (E.2.2.2, 4, .inr (.inr (.inr (.inr (rr4 (adA 0) (adB 0) (adC 0) (adD 0))))))) :: (stW E adA XA ++ (stW E adB XB ++ (stW E adC XC ++ (stW E adD XD))))) (fun r => (r = (-1) ∧ (¬ (nI 1 ≤ a ∧ a ≤ nI (X 13 0)))) ∨ (∃ (f : Nat) (r9 : Int32), r = r9 ∧ (a = nI f ∧ 1 ≤ f ∧ f ≤ X 13 0 ∧ r9 = Int32.ofInt (max 0 (mstL (X 0) (X 1) (atN (X 0) f) (f - 1)))))) := by
  refine zR.start (own := RX6) rfl (by decide +kernel) rfl (Nat.le_of_ble_eq_true rfl) (fun _ _ => rfl) ?_
  intro pZ eZ sZ mZ argsZ belowZ methZ cZ QZ hF hret hP hG ls hl
  obtain ⟨hx, hb, hml, hown, hts⟩ := id hF
  have hl : lv_has ls 2 [(0, .ref fs), (1, .int a)] := hl
  refine lv_aload_n hx hb dX6_mostFor_0 rfl (lv_at hl 0 rfl) ?_
  refine va_get (D := E.1) (ci := 6) (v := .ref (ad 0)) (C := RX6) (T := TX6) (N := 3) hx hb hts iwX6_mostFor_X6_c_X6_mostFor hown hG.1 hP 0 rfl rfl 0 (by decide) (hts (.fieldLink RX6 10 "FrettedStrings" "now" "LFrettedStrings$State;") (by decide +kernel)) (fun _ h9 => h9) rfl dX6_mostFor_1 ?_
  refine va_get (D := E.1) (ci := 4) (v := .ref (ad 1)) (C := RX4) (T := TX4) (N := 6) hx hb hts iwX6_mostFor_X4_c_X6_mostFor hown hG.1 hP 1 rfl rfl 0 (by decide) (hts (.fieldLink RX6 34 "FrettedStrings$State" "neck" "LFrettedStrings$Neck;") (by decide +kernel)) (fun _ h9 => h9) rfl dX6_mostFor_4 ?_
  refine lv_iload_n hx hb dX6_mostFor_7 rfl (lv_at hl 1 rfl) ?_
  have hPc := zP_sub (w := [((ad 1), .inr (1, [.int (nI (X 13 0)), .ref (ad 2), .ref (ad 3), .ref (ad 4)]))]) hP [2] rfl
  refine z_rd (fun _ h => h) (va_runV (As := [.int a]) (rest := []) hF (c_X1_has l E (ad 1) (ad 2) (ad 3) (ad 4) (X 13 0) a ) (cwV 1 hts gX6_mostFor_X1_has rfl rfl rfl (by decide +kernel) ⟨Nat.le_of_ble_eq_true rfl, Nat.le_of_ble_eq_true rfl⟩) (z_preRV (va_recv hG.1 hP (ci := 1) (q0 := 2) rfl rfl) hPc hG) rfl rfl hl.1 rfl (lv_room (Nat.le_of_ble_eq_true rfl)) dX6_mostFor_8 ⟨Nat.zero_le _, Nat.zero_le _⟩) (fun r1 hr1 => ?_)
  rcases hr1 with ⟨rfl, c2⟩ | ⟨rfl, c2⟩
  · -- 8 t
    obtain ⟨f, hf1, hf2, rfl⟩ := z_ge (by omega) (by omega) c2.1 c2.2
    refine lv_if_eq (tgt := 28) hx hb dX6_mostFor_11 (by decide) (fun c => absurd c (by decide)) (fun _ => ?_)
    refine lv_aload_n hx hb dX6_mostFor_14 rfl (lv_at hl 0 rfl) ?_
    refine va_get (D := E.1) (ci := 6) (v := .ref (ad 0)) (C := RX6) (T := TX6) (N := 3) hx hb hts iwX6_mostFor_X6_c_X6_mostFor hown hG.1 hP 0 rfl rfl 0 (by decide) (hts (.fieldLink RX6 10 "FrettedStrings" "now" "LFrettedStrings$State;") (by decide +kernel)) (fun _ h9 => h9) rfl dX6_mostFor_15 ?_
    refine va_get (D := E.1) (ci := 4) (v := .ref (ad 1)) (C := RX4) (T := TX4) (N := 6) hx hb hts iwX6_mostFor_X4_c_X6_mostFor hown hG.1 hP 1 rfl rfl 0 (by decide) (hts (.fieldLink RX6 34 "FrettedStrings$State" "neck" "LFrettedStrings$Neck;") (by decide +kernel)) (fun _ h9 => h9) rfl dX6_mostFor_18 ?_
    refine lv_iload_n hx hb dX6_mostFor_21 rfl (lv_at hl 1 rfl) ?_
    have hPc := zP_sub (w := [((ad 1), .inr (1, [.int (nI (X 13 0)), .ref (ad 2), .ref (ad 3), .ref (ad 4)])), ((ad 2), .inl (E.2.1, 12, .inl (fun zz => nI ((X 0) zz)))), ((ad 3), .inl (E.2.1, 12, .inl (fun zz => nI ((X 1) zz))))]) hP [2, 3, 4] rfl
    refine z_rd (fun _ h => h) (va_runV (As := [.int (nI f)]) (rest := []) hF (c_X1_mostHeightFor l E (ad 1) (ad 2) (ad 3) (ad 4) (X 13 0) f (X 0) (X 1) (by first | assumption | omega) (by first | assumption | omega) (by first | assumption | omega) (by first | assumption | omega) (by first | assumption | omega)) (cwV 1 hts gX6_mostFor_X1_mostHeightFor rfl rfl rfl (by decide +kernel) ⟨Nat.le_of_ble_eq_true rfl, Nat.le_of_ble_eq_true rfl⟩) (z_preRV (va_recv hG.1 hP (ci := 1) (q0 := 2) rfl rfl) hPc hG) rfl rfl hl.1 rfl (lv_room (Nat.le_of_ble_eq_true rfl)) dX6_mostFor_22 ⟨Nat.zero_le _, Nat.zero_le _⟩) (fun r3 hr3 => ?_)
    subst hr3
    refine lv_goto (tgt := 29) hx hb dX6_mostFor_25 (by decide) ?_
    exact hret _ _ _ dX6_mostFor_29 (Or.inr (⟨f, (Int32.ofInt (max 0 (mstL (X 0) (X 1) (atN (X 0) f) (f - 1)))), by first | rfl | (congr 1; omega), ⟨rfl, by omega, by omega, rfl⟩⟩))
  · -- 8 f
    refine lv_if_eq (tgt := 28) hx hb dX6_mostFor_11 (by decide) (fun _ => ?_) (fun c => absurd c (by decide))
    refine lv_iconst (v := (-1)) hx hb dX6_mostFor_28 (by decide) ?_
    exact hret _ _ _ dX6_mostFor_29 (Or.inl ⟨rfl, by assumption⟩)
theorem iwX6_modeInfo_X6_c_X6_modeInfo : ∀ w ∈ wsX60, w ∈ wsX6_modeInfo := by decide +kernel
theorem iwX6_modeInfo_X4_c_X6_modeInfo : ∀ w ∈ wsX40, w ∈ wsX6_modeInfo := by decide +kernel
set_option maxHeartbeats 1000000 in
set_option maxRecDepth 100000 in
theorem c_X6_modeInfo (l : Launch) (E : zE) (fs sc hi rw hz old : Nat) (a v u : Int32) (adA adB adC adD ad : Nat → Nat) (XA XB XC XD X : Nat → Nat → Nat) (hn : X 13 0 ≤ 12) (hPb : ∀ i, i < 12 → X 0 i ≤ 2400) (hHb : ∀ i, i < 12 → X 1 i ≤ 2000) (hprn : ∀ i, i < 4 → X 4 i ≤ X 13 0) (hst : ∀ i, i < 4 → X 8 i ≤ 2400) (hte : ∀ i, i < 4 → X 3 i ≤ 100000000) : zR l yX6_modeInfo wsX6_modeInfo ({ frames := 2, cells := 0, slots := 0, locals := 47 }) E [.ref fs, .int a, .int v, .int u] ((fs, .inr (6, [.ref (ad 0), .ref hi, .ref sc])) :: ((ad 0), .inr (4, [.ref (ad 1), .ref (ad 5), .ref (ad 13), .ref (ad 16), .int (nI (X 13 2)), .int (nI (X 13 3))])) :: ((ad 1), .inr (1, [.int (nI (X 13 0)), .ref (ad 2), .ref (ad 3), .ref (ad 4)])) :: ((ad 2), .inl (E.2.1, 12, .inl (fun zz => nI ((X 0) zz)))) :: ((ad 3), .inl (E.2.1, 12, .inl (fun zz => nI ((X 1) zz)))) :: ((ad 4), .inl (E.2.1, 12, .inl (fun zz => nI ((X 2) zz)))) :: ((ad 5), .inr (5, [.ref (ad 6), .ref (ad 7), .ref (ad 8), .ref (ad 9), .ref (ad 10), .ref (ad 11), .ref (ad 12)])) :: ((ad 6), .inl (E.2.1, 4, .inl (fun zz => nI ((X 3) zz)))) :: ((ad 7), .inl (E.2.1, 4, .inl (fun zz => nI ((X 4) zz)))) :: ((ad 8), .inl (E.2.1, 4, .inl (fun zz => nI ((X 5) zz)))) :: ((ad 9), .inl (E.2.1, 4, .inl (fun zz => nI ((X 6) zz)))) :: ((ad 10), .inl (E.2.1, 4, .inl (fun zz => nI ((X 7) zz)))) :: ((ad 11), .inl (E.2.1, 4, .inl (fun zz => nI ((X 8) zz)))) :: ((ad 12), .inl (E.2.1, 48, .inl (fun zz => nI ((X 9) zz)))) :: ((ad 13), .inr (2, [.int (nI (X 13 1)), .ref (ad 14), .ref (ad 15)])) :: ((ad 14), .inl (E.2.1, 52, .inl (fun zz => nI ((X 10) zz)))) :: ((ad 15), .inl (E.2.1, 52, .inl (fun zz => nI ((X 11) zz)))) :: ((ad 16), .inl (E.2.1, 5, .inl (fun zz => nI ((X 12) zz)))) :: (hi, .inr (0, [.int (nI hz), .int (nI old), .ref rw])) :: (rw, .inl (E.2.2.2, 4, .inr (.inr (.inr (.inr (rr4 (adA 0) (adB 0) (adC 0) (adD 0))))))) :: (stW E adA XA ++ (stW E adB XB ++ (stW E adC XC ++ (stW E adD XD))))) (fun r => (r = (-1) ∧ (¬ ((nI 0 ≤ a ∧ a ≤ nI 3) ∧ (nI 1 ≤ v ∧ v ≤ nI 12) ∧ (nI 0 ≤ u ∧ u ≤ nI 2)))) ∨ (∃ (s : Nat) (n : Nat) (w : Nat) (r9 : Int32), r = r9 ∧ (a = nI s ∧ v = nI n ∧ u = nI w ∧ s < 4 ∧ 1 ≤ n ∧ n ≤ 12 ∧ w ≤ 2 ∧ r9 = miX X s n w))) := by
  refine zR.start (own := RX6) rfl (by decide +kernel) rfl (Nat.le_of_ble_eq_true rfl) (fun _ _ => rfl) ?_
  intro pZ eZ sZ mZ argsZ belowZ methZ cZ QZ hF hret hP hG ls hl
  obtain ⟨hx, hb, hml, hown, hts⟩ := id hF
  have hl : lv_has ls 4 [(0, .ref fs), (1, .int a), (2, .int v), (3, .int u)] := hl
  refine lv_iload_n hx hb dX6_modeInfo_0 rfl (lv_at hl 1 rfl) ?_
  refine z_rd (fun _ h => h) (va_runS (As := [.int a]) (rest := []) hF (c_X6_isString l E a ) (va_cwS 1 hts gX6_modeInfo_X6_isString rfl rfl rfl (by decide +kernel) ⟨Nat.le_of_ble_eq_true rfl, Nat.le_of_ble_eq_true rfl⟩) (z_preR (fun k q h => by simp at h) hG) rfl rfl hl.1 rfl (lv_room (Nat.le_of_ble_eq_true rfl)) dX6_modeInfo_1 ⟨Nat.zero_le _, Nat.zero_le _⟩) (fun r1 hr1 => ?_)
  rcases hr1 with ⟨rfl, c2⟩ | ⟨rfl, c2⟩
  · -- 1 t
    have ka := c2
    refine lv_if_eq (tgt := 14) hx hb dX6_modeInfo_4 (by decide) (fun c => absurd c (by decide)) (fun _ => ?_)
    refine lv_iload_n hx hb dX6_modeInfo_7 rfl (lv_at hl 2 rfl) ?_
    refine z_rd (fun _ h => h) (va_runS (As := [.int v]) (rest := []) hF (c_X6_isMode l E v ) (va_cwS 1 hts gX6_modeInfo_X6_isMode rfl rfl rfl (by decide +kernel) ⟨Nat.le_of_ble_eq_true rfl, Nat.le_of_ble_eq_true rfl⟩) (z_preR (fun k q h => by simp at h) hG) rfl rfl hl.1 rfl (lv_room (Nat.le_of_ble_eq_true rfl)) dX6_modeInfo_8 ⟨Nat.zero_le _, Nat.zero_le _⟩) (fun r3 hr3 => ?_)
    rcases hr3 with ⟨rfl, c4⟩ | ⟨rfl, c4⟩
    · -- 8 t
      obtain ⟨s, hs1, hs2, rfl⟩ := z_ge (by omega) (by omega) ka.1 ka.2
      obtain ⟨n, hn1, hn2, rfl⟩ := z_ge (by omega) (by omega) c4.1 c4.2
      refine lv_if_ne (tgt := 16) hx hb dX6_modeInfo_11 (by decide) (fun _ => ?_) (fun c => absurd c (by decide))
      refine lv_iload_n hx hb dX6_modeInfo_16 rfl (lv_at hl 3 rfl) ?_
      rcases z_tab u 2 (by decide) with c5 | ⟨kZ, c5, rfl⟩
      · -- 17 out
        refine lv_tableOut (tgt := 83) hx hb dX6_modeInfo_17 c5 (by decide) ?_
        refine lv_iconst (v := (-1)) hx hb dX6_modeInfo_83 (by decide) ?_
        exact hret _ _ _ dX6_modeInfo_84 (Or.inl ⟨rfl, by intro q; exact tab_o 2 (by omega) c5 (by first | exact q.2 | exact q.2.2)⟩)
      · -- 17 in
        obtain hk | hk | hk : kZ = 0 ∨ kZ = 1 ∨ kZ = 2 := by omega
        · -- 17 case 0
          subst hk
          refine lv_tableIn (tgt := 44) (off := 27) hx hb dX6_modeInfo_17 (by decide) (by decide) (by decide) (by decide) ?_
          have hl : lv_has ls 4 [(0, .ref fs), (1, .int (nI s)), (2, .int (nI n)), (3, .int (nI 0))] := hl
          refine lv_aload_n hx hb dX6_modeInfo_44 rfl (lv_at hl 0 rfl) ?_
          refine va_get (D := E.1) (ci := 6) (v := .ref (ad 0)) (C := RX6) (T := TX6) (N := 3) hx hb hts iwX6_modeInfo_X6_c_X6_modeInfo hown hG.1 hP 0 rfl rfl 0 (by decide) (hts (.fieldLink RX6 10 "FrettedStrings" "now" "LFrettedStrings$State;") (by decide +kernel)) (fun _ h9 => h9) rfl dX6_modeInfo_45 ?_
          refine va_get (D := E.1) (ci := 4) (v := .ref (ad 5)) (C := RX4) (T := TX4) (N := 6) hx hb hts iwX6_modeInfo_X4_c_X6_modeInfo hown hG.1 hP 1 rfl rfl 1 (by decide) (hts (.fieldLink RX6 76 "FrettedStrings$State" "strings" "LFrettedStrings$Strings;") (by decide +kernel)) (fun _ h9 => h9) rfl dX6_modeInfo_48 ?_
          refine lv_iload_n hx hb dX6_modeInfo_51 rfl (lv_at hl 1 rfl) ?_
          refine lv_iload_n hx hb dX6_modeInfo_52 rfl (lv_at hl 2 rfl) ?_
          have hPc := zP_sub (w := [((ad 5), .inr (5, [.ref (ad 6), .ref (ad 7), .ref (ad 8), .ref (ad 9), .ref (ad 10), .ref (ad 11), .ref (ad 12)])), ((ad 12), .inl (E.2.1, 48, .inl (fun zz => nI ((X 9) zz))))]) hP [6, 13] rfl
          refine z_rd (fun _ h => h) (va_runV (As := [.int (nI s), .int (nI n)]) (rest := []) hF (c_X5_amplitudeOf l E (ad 5) (ad 6) (ad 7) (ad 8) (ad 9) (ad 10) (ad 11) (ad 12) s n (X 9) (by first | assumption | omega) (by first | assumption | omega) (by first | assumption | omega)) (cwV 2 hts gX6_modeInfo_X5_amplitudeOf rfl rfl rfl (by decide +kernel) ⟨Nat.le_of_ble_eq_true rfl, Nat.le_of_ble_eq_true rfl⟩) (z_preRV (va_recv hG.1 hP (ci := 5) (q0 := 6) rfl rfl) hPc hG) rfl rfl hl.1 rfl (lv_room (Nat.le_of_ble_eq_true rfl)) dX6_modeInfo_53 ⟨Nat.zero_le _, Nat.zero_le _⟩) (fun r6 hr6 => ?_)
          subst hr6
          exact hret _ _ _ dX6_modeInfo_56 (Or.inr (⟨s, n, 0, (nI ((X 9) (s * 12 + n - 1))), by first | rfl | (congr 1; omega), ⟨rfl, rfl, rfl, by omega, by omega, by omega, by omega, by unfold miX; (repeat' split) <;> first | rfl | (exfalso; omega)⟩⟩))
        · -- 17 case 1
          subst hk
          refine lv_tableIn (tgt := 57) (off := 40) hx hb dX6_modeInfo_17 (by decide) (by decide) (by decide) (by decide) ?_
          have hl : lv_has ls 4 [(0, .ref fs), (1, .int (nI s)), (2, .int (nI n)), (3, .int (nI 1))] := hl
          refine lv_aload_n hx hb dX6_modeInfo_57 rfl (lv_at hl 0 rfl) ?_
          refine va_get (D := E.1) (ci := 6) (v := .ref (ad 0)) (C := RX6) (T := TX6) (N := 3) hx hb hts iwX6_modeInfo_X6_c_X6_modeInfo hown hG.1 hP 0 rfl rfl 0 (by decide) (hts (.fieldLink RX6 10 "FrettedStrings" "now" "LFrettedStrings$State;") (by decide +kernel)) (fun _ h9 => h9) rfl dX6_modeInfo_58 ?_
          refine va_get (D := E.1) (ci := 4) (v := .ref (ad 5)) (C := RX4) (T := TX4) (N := 6) hx hb hts iwX6_modeInfo_X4_c_X6_modeInfo hown hG.1 hP 1 rfl rfl 1 (by decide) (hts (.fieldLink RX6 76 "FrettedStrings$State" "strings" "LFrettedStrings$Strings;") (by decide +kernel)) (fun _ h9 => h9) rfl dX6_modeInfo_61 ?_
          refine lv_iload_n hx hb dX6_modeInfo_64 rfl (lv_at hl 1 rfl) ?_
          refine lv_iload_n hx hb dX6_modeInfo_65 rfl (lv_at hl 2 rfl) ?_
          have hPc := zP_sub (w := [((ad 5), .inr (5, [.ref (ad 6), .ref (ad 7), .ref (ad 8), .ref (ad 9), .ref (ad 10), .ref (ad 11), .ref (ad 12)])), ((ad 6), .inl (E.2.1, 4, .inl (fun zz => nI ((X 3) zz)))), ((ad 11), .inl (E.2.1, 4, .inl (fun zz => nI ((X 8) zz))))]) hP [6, 7, 12] rfl
          refine z_rd (fun _ h => h) (va_runV (As := [.int (nI s), .int (nI n)]) (rest := []) hF (c_X5_pitchOf l E (ad 5) (ad 6) (ad 7) (ad 8) (ad 9) (ad 10) (ad 11) (ad 12) s n (X 3) (X 8) (by first | assumption | omega) (by first | assumption | omega) (by first | assumption | omega) (by first | assumption | omega) (by first | assumption | omega)) (cwV 2 hts gX6_modeInfo_X5_pitchOf rfl rfl rfl (by decide +kernel) ⟨Nat.le_of_ble_eq_true rfl, Nat.le_of_ble_eq_true rfl⟩) (z_preRV (va_recv hG.1 hP (ci := 5) (q0 := 6) rfl rfl) hPc hG) rfl rfl hl.1 rfl (lv_room (Nat.le_of_ble_eq_true rfl)) dX6_modeInfo_66 ⟨Nat.zero_le _, Nat.zero_le _⟩) (fun r7 hr7 => ?_)
          subst hr7
          exact hret _ _ _ dX6_modeInfo_69 (Or.inr (⟨s, n, 1, (nI (n * (X 3) s / (2520 - (X 8) s))), by first | rfl | (congr 1; omega), ⟨rfl, rfl, rfl, by omega, by omega, by omega, by omega, by unfold miX; (repeat' split) <;> first | rfl | (exfalso; omega)⟩⟩))
        · -- 17 case 2
          subst hk
          refine lv_tableIn (tgt := 70) (off := 53) hx hb dX6_modeInfo_17 (by decide) (by decide) (by decide) (by decide) ?_
          have hl : lv_has ls 4 [(0, .ref fs), (1, .int (nI s)), (2, .int (nI n)), (3, .int (nI 2))] := hl
          refine lv_aload_n hx hb dX6_modeInfo_70 rfl (lv_at hl 0 rfl) ?_
          refine va_get (D := E.1) (ci := 6) (v := .ref (ad 0)) (C := RX6) (T := TX6) (N := 3) hx hb hts iwX6_modeInfo_X6_c_X6_modeInfo hown hG.1 hP 0 rfl rfl 0 (by decide) (hts (.fieldLink RX6 10 "FrettedStrings" "now" "LFrettedStrings$State;") (by decide +kernel)) (fun _ h9 => h9) rfl dX6_modeInfo_71 ?_
          refine va_get (D := E.1) (ci := 4) (v := .ref (ad 5)) (C := RX4) (T := TX4) (N := 6) hx hb hts iwX6_modeInfo_X4_c_X6_modeInfo hown hG.1 hP 1 rfl rfl 1 (by decide) (hts (.fieldLink RX6 76 "FrettedStrings$State" "strings" "LFrettedStrings$Strings;") (by decide +kernel)) (fun _ h9 => h9) rfl dX6_modeInfo_74 ?_
          refine lv_iload_n hx hb dX6_modeInfo_77 rfl (lv_at hl 1 rfl) ?_
          refine lv_iload_n hx hb dX6_modeInfo_78 rfl (lv_at hl 2 rfl) ?_
          have hPc := zP_sub (w := [((ad 5), .inr (5, [.ref (ad 6), .ref (ad 7), .ref (ad 8), .ref (ad 9), .ref (ad 10), .ref (ad 11), .ref (ad 12)])), ((ad 11), .inl (E.2.1, 4, .inl (fun zz => nI ((X 8) zz))))]) hP [6, 12] rfl
          refine z_rd (fun _ h => h) (va_runV (As := [.int (nI s), .int (nI n)]) (rest := []) hF (c_X5_wholeNodes l E (ad 5) (ad 6) (ad 7) (ad 8) (ad 9) (ad 10) (ad 11) (ad 12) s n (X 8) (by first | assumption | omega) (by first | assumption | omega) (by first | assumption | omega) (by first | assumption | omega)) (cwV 2 hts gX6_modeInfo_X5_wholeNodes rfl rfl rfl (by decide +kernel) ⟨Nat.le_of_ble_eq_true rfl, Nat.le_of_ble_eq_true rfl⟩) (z_preRV (va_recv hG.1 hP (ci := 5) (q0 := 6) rfl rfl) hPc hG) rfl rfl hl.1 rfl (lv_room (Nat.le_of_ble_eq_true rfl)) dX6_modeInfo_79 ⟨Nat.zero_le _, Nat.zero_le _⟩) (fun r8 hr8 => ?_)
          subst hr8
          exact hret _ _ _ dX6_modeInfo_82 (Or.inr (⟨s, n, 2, (nI (Nat.gcd (2520 - (X 8) s) n - 1)), by first | rfl | (congr 1; omega), ⟨rfl, rfl, rfl, by omega, by omega, by omega, by omega, by unfold miX; (repeat' split) <;> first | rfl | (exfalso; omega)⟩⟩))
    · -- 8 f
      refine lv_if_ne (tgt := 16) hx hb dX6_modeInfo_11 (by decide) (fun c => absurd c (by decide)) (fun _ => ?_)
      refine lv_iconst (v := (-1)) hx hb dX6_modeInfo_14 (by decide) ?_
      exact hret _ _ _ dX6_modeInfo_15 (Or.inl ⟨rfl, by intro q; first | exact absurd q (by assumption) | exact absurd q.1 (by assumption) | exact absurd q.2 (by assumption) | exact absurd q.2.1 (by assumption) | exact absurd q.2.2 (by assumption)⟩)
  · -- 1 f
    refine lv_if_eq (tgt := 14) hx hb dX6_modeInfo_4 (by decide) (fun _ => ?_) (fun c => absurd c (by decide))
    refine lv_iconst (v := (-1)) hx hb dX6_modeInfo_14 (by decide) ?_
    exact hret _ _ _ dX6_modeInfo_15 (Or.inl ⟨rfl, by intro q; first | exact absurd q (by assumption) | exact absurd q.1 (by assumption) | exact absurd q.2 (by assumption) | exact absurd q.2.1 (by assumption) | exact absurd q.2.2 (by assumption)⟩)
theorem iwX6_node_X6_c_X6_node : ∀ w ∈ wsX60, w ∈ wsX6_node := by decide +kernel
theorem iwX6_node_X4_c_X6_node : ∀ w ∈ wsX40, w ∈ wsX6_node := by decide +kernel
theorem iwX6_node_X5_c_X6_node : ∀ w ∈ wsX50, w ∈ wsX6_node := by decide +kernel
set_option maxHeartbeats 1000000 in
set_option maxRecDepth 100000 in
theorem c_X6_node (l : Launch) (E : zE) (fs sc hi rw hz old : Nat) (a v u : Int32) (adA adB adC adD ad : Nat → Nat) (XA XB XC XD X : Nat → Nat → Nat) (hn : X 13 0 ≤ 12) (hPb : ∀ i, i < 12 → X 0 i ≤ 2400) (hHb : ∀ i, i < 12 → X 1 i ≤ 2000) (hprn : ∀ i, i < 4 → X 4 i ≤ X 13 0) (hst : ∀ i, i < 4 → X 8 i ≤ 2400) : zR l yX6_node wsX6_node ({ frames := 2, cells := 0, slots := 0, locals := 47 }) E [.ref fs, .int a, .int v, .int u] ((fs, .inr (6, [.ref (ad 0), .ref hi, .ref sc])) :: ((ad 0), .inr (4, [.ref (ad 1), .ref (ad 5), .ref (ad 13), .ref (ad 16), .int (nI (X 13 2)), .int (nI (X 13 3))])) :: ((ad 1), .inr (1, [.int (nI (X 13 0)), .ref (ad 2), .ref (ad 3), .ref (ad 4)])) :: ((ad 2), .inl (E.2.1, 12, .inl (fun zz => nI ((X 0) zz)))) :: ((ad 3), .inl (E.2.1, 12, .inl (fun zz => nI ((X 1) zz)))) :: ((ad 4), .inl (E.2.1, 12, .inl (fun zz => nI ((X 2) zz)))) :: ((ad 5), .inr (5, [.ref (ad 6), .ref (ad 7), .ref (ad 8), .ref (ad 9), .ref (ad 10), .ref (ad 11), .ref (ad 12)])) :: ((ad 6), .inl (E.2.1, 4, .inl (fun zz => nI ((X 3) zz)))) :: ((ad 7), .inl (E.2.1, 4, .inl (fun zz => nI ((X 4) zz)))) :: ((ad 8), .inl (E.2.1, 4, .inl (fun zz => nI ((X 5) zz)))) :: ((ad 9), .inl (E.2.1, 4, .inl (fun zz => nI ((X 6) zz)))) :: ((ad 10), .inl (E.2.1, 4, .inl (fun zz => nI ((X 7) zz)))) :: ((ad 11), .inl (E.2.1, 4, .inl (fun zz => nI ((X 8) zz)))) :: ((ad 12), .inl (E.2.1, 48, .inl (fun zz => nI ((X 9) zz)))) :: ((ad 13), .inr (2, [.int (nI (X 13 1)), .ref (ad 14), .ref (ad 15)])) :: ((ad 14), .inl (E.2.1, 52, .inl (fun zz => nI ((X 10) zz)))) :: ((ad 15), .inl (E.2.1, 52, .inl (fun zz => nI ((X 11) zz)))) :: ((ad 16), .inl (E.2.1, 5, .inl (fun zz => nI ((X 12) zz)))) :: (hi, .inr (0, [.int (nI hz), .int (nI old), .ref rw])) :: (rw, .inl (E.2.2.2, 4, .inr (.inr (.inr (.inr (rr4 (adA 0) (adB 0) (adC 0) (adD 0))))))) :: (stW E adA XA ++ (stW E adB XB ++ (stW E adC XC ++ (stW E adD XD))))) (fun r => (r = (-1) ∧ (¬ ((nI 0 ≤ a ∧ a ≤ nI 3) ∧ (nI 1 ≤ v ∧ v ≤ nI 12) ∧ (nI 1 ≤ u ∧ u ≤ nI 2519)))) ∨ (∃ (s : Nat) (n : Nat) (y : Nat), r = (-4) ∧ (a = nI s ∧ v = nI n ∧ u = nI y ∧ s < 4 ∧ 1 ≤ n ∧ n ≤ 12 ∧ 1 ≤ y ∧ y ≤ 2519 ∧ y ≤ X 8 s)) ∨ (∃ (s : Nat) (n : Nat) (y : Nat), r = nI 1 ∧ (a = nI s ∧ v = nI n ∧ u = nI y ∧ s < 4 ∧ 1 ≤ n ∧ n ≤ 12 ∧ 1 ≤ y ∧ y ≤ 2519 ∧ X 8 s < y ∧ dist n (y - X 8 s) (2520 - X 8 s) = 0)) ∨ (∃ (s : Nat) (n : Nat) (y : Nat), r = nI 0 ∧ (a = nI s ∧ v = nI n ∧ u = nI y ∧ s < 4 ∧ 1 ≤ n ∧ n ≤ 12 ∧ 1 ≤ y ∧ y ≤ 2519 ∧ X 8 s < y ∧ ¬ dist n (y - X 8 s) (2520 - X 8 s) = 0))) := by
  refine zR.start (own := RX6) rfl (by decide +kernel) rfl (Nat.le_of_ble_eq_true rfl) (fun _ _ => rfl) ?_
  intro pZ eZ sZ mZ argsZ belowZ methZ cZ QZ hF hret hP hG ls hl
  obtain ⟨hx, hb, hml, hown, hts⟩ := id hF
  have hl : lv_has ls 4 [(0, .ref fs), (1, .int a), (2, .int v), (3, .int u)] := hl
  refine lv_iload_n hx hb dX6_node_0 rfl (lv_at hl 1 rfl) ?_
  refine z_rd (fun _ h => h) (va_runS (As := [.int a]) (rest := []) hF (c_X6_isString l E a ) (va_cwS 1 hts gX6_node_X6_isString rfl rfl rfl (by decide +kernel) ⟨Nat.le_of_ble_eq_true rfl, Nat.le_of_ble_eq_true rfl⟩) (z_preR (fun k q h => by simp at h) hG) rfl rfl hl.1 rfl (lv_room (Nat.le_of_ble_eq_true rfl)) dX6_node_1 ⟨Nat.zero_le _, Nat.zero_le _⟩) (fun r1 hr1 => ?_)
  rcases hr1 with ⟨rfl, c2⟩ | ⟨rfl, c2⟩
  · -- 1 t
    have ka := c2
    refine lv_if_eq (tgt := 21) hx hb dX6_node_4 (by decide) (fun c => absurd c (by decide)) (fun _ => ?_)
    refine lv_iload_n hx hb dX6_node_7 rfl (lv_at hl 2 rfl) ?_
    refine z_rd (fun _ h => h) (va_runS (As := [.int v]) (rest := []) hF (c_X6_isMode l E v ) (va_cwS 1 hts gX6_node_X6_isMode rfl rfl rfl (by decide +kernel) ⟨Nat.le_of_ble_eq_true rfl, Nat.le_of_ble_eq_true rfl⟩) (z_preR (fun k q h => by simp at h) hG) rfl rfl hl.1 rfl (lv_room (Nat.le_of_ble_eq_true rfl)) dX6_node_8 ⟨Nat.zero_le _, Nat.zero_le _⟩) (fun r3 hr3 => ?_)
    rcases hr3 with ⟨rfl, c4⟩ | ⟨rfl, c4⟩
    · -- 8 t
      have kv := c4
      refine lv_if_eq (tgt := 21) hx hb dX6_node_11 (by decide) (fun c => absurd c (by decide)) (fun _ => ?_)
      refine lv_iload_n hx hb dX6_node_14 rfl (lv_at hl 3 rfl) ?_
      refine z_rd (fun _ h => h) (va_runS (As := [.int u]) (rest := []) hF (c_X6_isPlace l E u ) (va_cwS 1 hts gX6_node_X6_isPlace rfl rfl rfl (by decide +kernel) ⟨Nat.le_of_ble_eq_true rfl, Nat.le_of_ble_eq_true rfl⟩) (z_preR (fun k q h => by simp at h) hG) rfl rfl hl.1 rfl (lv_room (Nat.le_of_ble_eq_true rfl)) dX6_node_15 ⟨Nat.zero_le _, Nat.zero_le _⟩) (fun r5 hr5 => ?_)
      rcases hr5 with ⟨rfl, c6⟩ | ⟨rfl, c6⟩
      · -- 15 t
        obtain ⟨s, hs1, hs2, rfl⟩ := z_ge (by omega) (by omega) ka.1 ka.2
        obtain ⟨n, hn1, hn2, rfl⟩ := z_ge (by omega) (by omega) kv.1 kv.2
        obtain ⟨y, hy1, hy2, rfl⟩ := z_ge (by omega) (by omega) c6.1 c6.2
        have hsb := hst s (by omega)
        have hdb : dist n (y - X 8 s) (2520 - X 8 s) ≤ 2520 := by unfold dist; omega
        refine lv_if_ne (tgt := 23) hx hb dX6_node_18 (by decide) (fun _ => ?_) (fun c => absurd c (by decide))
        refine lv_iload_n hx hb dX6_node_23 rfl (lv_at hl 3 rfl) ?_
        refine lv_aload_n hx hb dX6_node_24 rfl (lv_at hl 0 rfl) ?_
        refine va_get (D := E.1) (ci := 6) (v := .ref (ad 0)) (C := RX6) (T := TX6) (N := 3) hx hb hts iwX6_node_X6_c_X6_node hown hG.1 hP 0 rfl rfl 0 (by decide) (hts (.fieldLink RX6 10 "FrettedStrings" "now" "LFrettedStrings$State;") (by decide +kernel)) (fun _ h9 => h9) rfl dX6_node_25 ?_
        refine va_get (D := E.1) (ci := 4) (v := .ref (ad 5)) (C := RX4) (T := TX4) (N := 6) hx hb hts iwX6_node_X4_c_X6_node hown hG.1 hP 1 rfl rfl 1 (by decide) (hts (.fieldLink RX6 76 "FrettedStrings$State" "strings" "LFrettedStrings$Strings;") (by decide +kernel)) (fun _ h9 => h9) rfl dX6_node_28 ?_
        refine va_get (D := E.1) (ci := 5) (v := .ref (ad 11)) (C := RX5) (T := TX5) (N := 7) hx hb hts iwX6_node_X5_c_X6_node hown hG.1 hP 6 rfl rfl 5 (by decide) (hts (.fieldLink RX6 117 "FrettedStrings$Strings" "start" "[I") (by decide +kernel)) (fun _ h9 => h9) rfl dX6_node_31 ?_
        refine lv_iload_n hx hb dX6_node_34 rfl (lv_at hl 1 rfl) ?_
        refine z_iald (j := s) (v := (X 8) s) hx hb hG hP 12 rfl (by omega) (by decide) (rfl) dX6_node_35 ?_
        refine z_icmp_gt (a := y) (b := (X 8) s) (tgt := 42) hx hb dX6_node_36 (by decide) (by omega) (by omega) (fun c7 => ?_) (fun c7 => ?_)
        · -- 36 t
          refine lv_aload_n hx hb dX6_node_42 rfl (lv_at hl 0 rfl) ?_
          refine va_get (D := E.1) (ci := 6) (v := .ref (ad 0)) (C := RX6) (T := TX6) (N := 3) hx hb hts iwX6_node_X6_c_X6_node hown hG.1 hP 0 rfl rfl 0 (by decide) (hts (.fieldLink RX6 10 "FrettedStrings" "now" "LFrettedStrings$State;") (by decide +kernel)) (fun _ h9 => h9) rfl dX6_node_43 ?_
          refine va_get (D := E.1) (ci := 4) (v := .ref (ad 5)) (C := RX4) (T := TX4) (N := 6) hx hb hts iwX6_node_X4_c_X6_node hown hG.1 hP 1 rfl rfl 1 (by decide) (hts (.fieldLink RX6 76 "FrettedStrings$State" "strings" "LFrettedStrings$Strings;") (by decide +kernel)) (fun _ h9 => h9) rfl dX6_node_46 ?_
          refine lv_iload_n hx hb dX6_node_49 rfl (lv_at hl 1 rfl) ?_
          refine lv_iload_n hx hb dX6_node_50 rfl (lv_at hl 2 rfl) ?_
          refine lv_iload_n hx hb dX6_node_51 rfl (lv_at hl 3 rfl) ?_
          have hPc := zP_sub (w := [((ad 5), .inr (5, [.ref (ad 6), .ref (ad 7), .ref (ad 8), .ref (ad 9), .ref (ad 10), .ref (ad 11), .ref (ad 12)])), ((ad 11), .inl (E.2.1, 4, .inl (fun zz => nI ((X 8) zz))))]) hP [6, 12] rfl
          refine z_rd (fun _ h => h) (va_runV (As := [.int (nI s), .int (nI n), .int (nI y)]) (rest := []) hF (c_X5_distanceFromNode l E (ad 5) (ad 6) (ad 7) (ad 8) (ad 9) (ad 10) (ad 11) (ad 12) s n y (X 8) (by first | assumption | omega) (by first | assumption | omega) (by first | assumption | omega) (by first | assumption | omega) (by first | assumption | omega) (by first | assumption | omega)) (cwV 3 hts gX6_node_X5_distanceFromNode rfl rfl rfl (by decide +kernel) ⟨Nat.le_of_ble_eq_true rfl, Nat.le_of_ble_eq_true rfl⟩) (z_preRV (va_recv hG.1 hP (ci := 5) (q0 := 6) rfl rfl) hPc hG) rfl rfl hl.1 rfl (lv_room (Nat.le_of_ble_eq_true rfl)) dX6_node_52 ⟨Nat.zero_le _, Nat.zero_le _⟩) (fun r8 hr8 => ?_)
          subst hr8
          refine z_if_ne (a := dist n (y - (X 8) s) (2520 - (X 8) s)) (tgt := 62) hx hb dX6_node_55 (by decide) (by omega) (fun c9 => ?_) (fun c9 => ?_)
          · -- 55 t
            refine lv_iconst (v := nI 0) hx hb dX6_node_62 (by decide) ?_
            exact hret _ _ _ dX6_node_63 (Or.inr (Or.inr (Or.inr (⟨s, n, y, rfl, ⟨rfl, rfl, rfl, by omega, by omega, by omega, by omega, by omega, by omega, by first | assumption | omega⟩⟩))))
          · -- 55 f
            refine lv_iconst (v := nI 1) hx hb dX6_node_58 (by decide) ?_
            refine lv_goto (tgt := 63) hx hb dX6_node_59 (by decide) ?_
            exact hret _ _ _ dX6_node_63 (Or.inr (Or.inr (Or.inl ⟨s, n, y, rfl, ⟨rfl, rfl, rfl, by omega, by omega, by omega, by omega, by omega, by omega, by first | assumption | omega⟩⟩)))
        · -- 36 f
          refine lv_bipush (v := (-4)) hx hb dX6_node_39 (by decide) ?_
          exact hret _ _ _ dX6_node_41 (Or.inr (Or.inl ⟨s, n, y, rfl, ⟨rfl, rfl, rfl, by omega, by omega, by omega, by omega, by omega, by omega⟩⟩))
      · -- 15 f
        refine lv_if_ne (tgt := 23) hx hb dX6_node_18 (by decide) (fun c => absurd c (by decide)) (fun _ => ?_)
        refine lv_iconst (v := (-1)) hx hb dX6_node_21 (by decide) ?_
        exact hret _ _ _ dX6_node_22 (Or.inl ⟨rfl, by intro q; first | exact absurd q (by assumption) | exact absurd q.1 (by assumption) | exact absurd q.2 (by assumption) | exact absurd q.2.1 (by assumption) | exact absurd q.2.2 (by assumption)⟩)
    · -- 8 f
      refine lv_if_eq (tgt := 21) hx hb dX6_node_11 (by decide) (fun _ => ?_) (fun c => absurd c (by decide))
      refine lv_iconst (v := (-1)) hx hb dX6_node_21 (by decide) ?_
      exact hret _ _ _ dX6_node_22 (Or.inl ⟨rfl, by intro q; first | exact absurd q (by assumption) | exact absurd q.1 (by assumption) | exact absurd q.2 (by assumption) | exact absurd q.2.1 (by assumption) | exact absurd q.2.2 (by assumption)⟩)
  · -- 1 f
    refine lv_if_eq (tgt := 21) hx hb dX6_node_4 (by decide) (fun _ => ?_) (fun c => absurd c (by decide))
    refine lv_iconst (v := (-1)) hx hb dX6_node_21 (by decide) ?_
    exact hret _ _ _ dX6_node_22 (Or.inl ⟨rfl, by intro q; first | exact absurd q (by assumption) | exact absurd q.1 (by assumption) | exact absurd q.2 (by assumption) | exact absurd q.2.1 (by assumption) | exact absurd q.2.2 (by assumption)⟩)
theorem iwX6_nodeAgain_X6_c_X6_nodeAgain : ∀ w ∈ wsX60, w ∈ wsX6_nodeAgain := by decide +kernel
theorem iwX6_nodeAgain_X4_c_X6_nodeAgain : ∀ w ∈ wsX40, w ∈ wsX6_nodeAgain := by decide +kernel
theorem iwX6_nodeAgain_X5_c_X6_nodeAgain : ∀ w ∈ wsX50, w ∈ wsX6_nodeAgain := by decide +kernel
set_option maxHeartbeats 1000000 in
set_option maxRecDepth 100000 in
theorem c_X6_nodeAgain (l : Launch) (E : zE) (fs sc hi rw hz old : Nat) (a v u : Int32) (adA adB adC adD ad : Nat → Nat) (XA XB XC XD X : Nat → Nat → Nat) (hn : X 13 0 ≤ 12) (hPb : ∀ i, i < 12 → X 0 i ≤ 2400) (hHb : ∀ i, i < 12 → X 1 i ≤ 2000) (hprn : ∀ i, i < 4 → X 4 i ≤ X 13 0) (hst : ∀ i, i < 4 → X 8 i ≤ 2400) : zR l yX6_nodeAgain wsX6_nodeAgain ({ frames := 2, cells := 0, slots := 0, locals := 51 }) E [.ref fs, .int a, .int v, .int u] ((fs, .inr (6, [.ref (ad 0), .ref hi, .ref sc])) :: ((ad 0), .inr (4, [.ref (ad 1), .ref (ad 5), .ref (ad 13), .ref (ad 16), .int (nI (X 13 2)), .int (nI (X 13 3))])) :: ((ad 1), .inr (1, [.int (nI (X 13 0)), .ref (ad 2), .ref (ad 3), .ref (ad 4)])) :: ((ad 2), .inl (E.2.1, 12, .inl (fun zz => nI ((X 0) zz)))) :: ((ad 3), .inl (E.2.1, 12, .inl (fun zz => nI ((X 1) zz)))) :: ((ad 4), .inl (E.2.1, 12, .inl (fun zz => nI ((X 2) zz)))) :: ((ad 5), .inr (5, [.ref (ad 6), .ref (ad 7), .ref (ad 8), .ref (ad 9), .ref (ad 10), .ref (ad 11), .ref (ad 12)])) :: ((ad 6), .inl (E.2.1, 4, .inl (fun zz => nI ((X 3) zz)))) :: ((ad 7), .inl (E.2.1, 4, .inl (fun zz => nI ((X 4) zz)))) :: ((ad 8), .inl (E.2.1, 4, .inl (fun zz => nI ((X 5) zz)))) :: ((ad 9), .inl (E.2.1, 4, .inl (fun zz => nI ((X 6) zz)))) :: ((ad 10), .inl (E.2.1, 4, .inl (fun zz => nI ((X 7) zz)))) :: ((ad 11), .inl (E.2.1, 4, .inl (fun zz => nI ((X 8) zz)))) :: ((ad 12), .inl (E.2.1, 48, .inl (fun zz => nI ((X 9) zz)))) :: ((ad 13), .inr (2, [.int (nI (X 13 1)), .ref (ad 14), .ref (ad 15)])) :: ((ad 14), .inl (E.2.1, 52, .inl (fun zz => nI ((X 10) zz)))) :: ((ad 15), .inl (E.2.1, 52, .inl (fun zz => nI ((X 11) zz)))) :: ((ad 16), .inl (E.2.1, 5, .inl (fun zz => nI ((X 12) zz)))) :: (hi, .inr (0, [.int (nI hz), .int (nI old), .ref rw])) :: (rw, .inl (E.2.2.2, 4, .inr (.inr (.inr (.inr (rr4 (adA 0) (adB 0) (adC 0) (adD 0))))))) :: (stW E adA XA ++ (stW E adB XB ++ (stW E adC XC ++ (stW E adD XD))))) (fun r => (r = (-1) ∧ (¬ ((nI 0 ≤ a ∧ a ≤ nI 3) ∧ (nI 1 ≤ v ∧ v ≤ nI 12) ∧ (nI 1 ≤ u ∧ u ≤ nI 2519)))) ∨ (∃ (s : Nat) (n : Nat) (y : Nat), r = (-4) ∧ (a = nI s ∧ v = nI n ∧ u = nI y ∧ s < 4 ∧ 1 ≤ n ∧ n ≤ 12 ∧ 1 ≤ y ∧ y ≤ 2519 ∧ y ≤ X 8 s)) ∨ (∃ (s : Nat) (n : Nat) (y : Nat), r = nI 1 ∧ (a = nI s ∧ v = nI n ∧ u = nI y ∧ s < 4 ∧ 1 ≤ n ∧ n ≤ 12 ∧ 1 ≤ y ∧ y ≤ 2519 ∧ X 8 s < y ∧ n % ((2520 - X 8 s) / Nat.gcd (2520 - X 8 s) (y - X 8 s)) = 0)) ∨ (∃ (s : Nat) (n : Nat) (y : Nat), r = nI 0 ∧ (a = nI s ∧ v = nI n ∧ u = nI y ∧ s < 4 ∧ 1 ≤ n ∧ n ≤ 12 ∧ 1 ≤ y ∧ y ≤ 2519 ∧ X 8 s < y ∧ ¬ n % ((2520 - X 8 s) / Nat.gcd (2520 - X 8 s) (y - X 8 s)) = 0))) := by
  refine zR.start (own := RX6) rfl (by decide +kernel) rfl (Nat.le_of_ble_eq_true rfl) (fun _ _ => rfl) ?_
  intro pZ eZ sZ mZ argsZ belowZ methZ cZ QZ hF hret hP hG ls hl
  obtain ⟨hx, hb, hml, hown, hts⟩ := id hF
  have hl : lv_has ls 4 [(0, .ref fs), (1, .int a), (2, .int v), (3, .int u)] := hl
  refine lv_iload_n hx hb dX6_nodeAgain_0 rfl (lv_at hl 1 rfl) ?_
  refine z_rd (fun _ h => h) (va_runS (As := [.int a]) (rest := []) hF (c_X6_isString l E a ) (va_cwS 1 hts gX6_nodeAgain_X6_isString rfl rfl rfl (by decide +kernel) ⟨Nat.le_of_ble_eq_true rfl, Nat.le_of_ble_eq_true rfl⟩) (z_preR (fun k q h => by simp at h) hG) rfl rfl hl.1 rfl (lv_room (Nat.le_of_ble_eq_true rfl)) dX6_nodeAgain_1 ⟨Nat.zero_le _, Nat.zero_le _⟩) (fun r1 hr1 => ?_)
  rcases hr1 with ⟨rfl, c2⟩ | ⟨rfl, c2⟩
  · -- 1 t
    have ka := c2
    refine lv_if_eq (tgt := 21) hx hb dX6_nodeAgain_4 (by decide) (fun c => absurd c (by decide)) (fun _ => ?_)
    refine lv_iload_n hx hb dX6_nodeAgain_7 rfl (lv_at hl 2 rfl) ?_
    refine z_rd (fun _ h => h) (va_runS (As := [.int v]) (rest := []) hF (c_X6_isMode l E v ) (va_cwS 1 hts gX6_nodeAgain_X6_isMode rfl rfl rfl (by decide +kernel) ⟨Nat.le_of_ble_eq_true rfl, Nat.le_of_ble_eq_true rfl⟩) (z_preR (fun k q h => by simp at h) hG) rfl rfl hl.1 rfl (lv_room (Nat.le_of_ble_eq_true rfl)) dX6_nodeAgain_8 ⟨Nat.zero_le _, Nat.zero_le _⟩) (fun r3 hr3 => ?_)
    rcases hr3 with ⟨rfl, c4⟩ | ⟨rfl, c4⟩
    · -- 8 t
      have kv := c4
      refine lv_if_eq (tgt := 21) hx hb dX6_nodeAgain_11 (by decide) (fun c => absurd c (by decide)) (fun _ => ?_)
      refine lv_iload_n hx hb dX6_nodeAgain_14 rfl (lv_at hl 3 rfl) ?_
      refine z_rd (fun _ h => h) (va_runS (As := [.int u]) (rest := []) hF (c_X6_isPlace l E u ) (va_cwS 1 hts gX6_nodeAgain_X6_isPlace rfl rfl rfl (by decide +kernel) ⟨Nat.le_of_ble_eq_true rfl, Nat.le_of_ble_eq_true rfl⟩) (z_preR (fun k q h => by simp at h) hG) rfl rfl hl.1 rfl (lv_room (Nat.le_of_ble_eq_true rfl)) dX6_nodeAgain_15 ⟨Nat.zero_le _, Nat.zero_le _⟩) (fun r5 hr5 => ?_)
      rcases hr5 with ⟨rfl, c6⟩ | ⟨rfl, c6⟩
      · -- 15 t
        obtain ⟨s, hs1, hs2, rfl⟩ := z_ge (by omega) (by omega) ka.1 ka.2
        obtain ⟨n, hn1, hn2, rfl⟩ := z_ge (by omega) (by omega) kv.1 kv.2
        obtain ⟨y, hy1, hy2, rfl⟩ := z_ge (by omega) (by omega) c6.1 c6.2
        have hsb := hst s (by omega)
        have hdb : dist n (y - X 8 s) (2520 - X 8 s) ≤ 2520 := by unfold dist; omega
        refine lv_if_ne (tgt := 23) hx hb dX6_nodeAgain_18 (by decide) (fun _ => ?_) (fun c => absurd c (by decide))
        refine lv_iload_n hx hb dX6_nodeAgain_23 rfl (lv_at hl 3 rfl) ?_
        refine lv_aload_n hx hb dX6_nodeAgain_24 rfl (lv_at hl 0 rfl) ?_
        refine va_get (D := E.1) (ci := 6) (v := .ref (ad 0)) (C := RX6) (T := TX6) (N := 3) hx hb hts iwX6_nodeAgain_X6_c_X6_nodeAgain hown hG.1 hP 0 rfl rfl 0 (by decide) (hts (.fieldLink RX6 10 "FrettedStrings" "now" "LFrettedStrings$State;") (by decide +kernel)) (fun _ h9 => h9) rfl dX6_nodeAgain_25 ?_
        refine va_get (D := E.1) (ci := 4) (v := .ref (ad 5)) (C := RX4) (T := TX4) (N := 6) hx hb hts iwX6_nodeAgain_X4_c_X6_nodeAgain hown hG.1 hP 1 rfl rfl 1 (by decide) (hts (.fieldLink RX6 76 "FrettedStrings$State" "strings" "LFrettedStrings$Strings;") (by decide +kernel)) (fun _ h9 => h9) rfl dX6_nodeAgain_28 ?_
        refine va_get (D := E.1) (ci := 5) (v := .ref (ad 11)) (C := RX5) (T := TX5) (N := 7) hx hb hts iwX6_nodeAgain_X5_c_X6_nodeAgain hown hG.1 hP 6 rfl rfl 5 (by decide) (hts (.fieldLink RX6 117 "FrettedStrings$Strings" "start" "[I") (by decide +kernel)) (fun _ h9 => h9) rfl dX6_nodeAgain_31 ?_
        refine lv_iload_n hx hb dX6_nodeAgain_34 rfl (lv_at hl 1 rfl) ?_
        refine z_iald (j := s) (v := (X 8) s) hx hb hG hP 12 rfl (by omega) (by decide) (rfl) dX6_nodeAgain_35 ?_
        refine z_icmp_gt (a := y) (b := (X 8) s) (tgt := 42) hx hb dX6_nodeAgain_36 (by decide) (by omega) (by omega) (fun c7 => ?_) (fun c7 => ?_)
        · -- 36 t
          refine lv_aload_n hx hb dX6_nodeAgain_42 rfl (lv_at hl 0 rfl) ?_
          refine va_get (D := E.1) (ci := 6) (v := .ref (ad 0)) (C := RX6) (T := TX6) (N := 3) hx hb hts iwX6_nodeAgain_X6_c_X6_nodeAgain hown hG.1 hP 0 rfl rfl 0 (by decide) (hts (.fieldLink RX6 10 "FrettedStrings" "now" "LFrettedStrings$State;") (by decide +kernel)) (fun _ h9 => h9) rfl dX6_nodeAgain_43 ?_
          refine va_get (D := E.1) (ci := 4) (v := .ref (ad 5)) (C := RX4) (T := TX4) (N := 6) hx hb hts iwX6_nodeAgain_X4_c_X6_nodeAgain hown hG.1 hP 1 rfl rfl 1 (by decide) (hts (.fieldLink RX6 76 "FrettedStrings$State" "strings" "LFrettedStrings$Strings;") (by decide +kernel)) (fun _ h9 => h9) rfl dX6_nodeAgain_46 ?_
          refine lv_iload_n hx hb dX6_nodeAgain_49 rfl (lv_at hl 1 rfl) ?_
          refine lv_iload_n hx hb dX6_nodeAgain_50 rfl (lv_at hl 2 rfl) ?_
          refine lv_iload_n hx hb dX6_nodeAgain_51 rfl (lv_at hl 3 rfl) ?_
          have hPc := zP_sub (w := [((ad 5), .inr (5, [.ref (ad 6), .ref (ad 7), .ref (ad 8), .ref (ad 9), .ref (ad 10), .ref (ad 11), .ref (ad 12)])), ((ad 11), .inl (E.2.1, 4, .inl (fun zz => nI ((X 8) zz))))]) hP [6, 12] rfl
          refine z_rd (fun _ h => h) (va_runV (As := [.int (nI s), .int (nI n), .int (nI y)]) (rest := []) hF (c_X5_hasNodeByDivisor l E (ad 5) (ad 6) (ad 7) (ad 8) (ad 9) (ad 10) (ad 11) (ad 12) s n y (X 8) (by first | assumption | omega) (by first | assumption | omega) (by first | assumption | omega) (by first | assumption | omega) (by first | assumption | omega) (by first | assumption | omega)) (cwV 3 hts gX6_nodeAgain_X5_hasNodeByDivisor rfl rfl rfl (by decide +kernel) ⟨Nat.le_of_ble_eq_true rfl, Nat.le_of_ble_eq_true rfl⟩) (z_preRV (va_recv hG.1 hP (ci := 5) (q0 := 6) rfl rfl) hPc hG) rfl rfl hl.1 rfl (lv_room (Nat.le_of_ble_eq_true rfl)) dX6_nodeAgain_52 ⟨Nat.zero_le _, Nat.zero_le _⟩) (fun r8 hr8 => ?_)
          rcases hr8 with ⟨rfl, c9⟩ | ⟨rfl, c9⟩
          · -- 52 t
            refine lv_if_eq (tgt := 62) hx hb dX6_nodeAgain_55 (by decide) (fun c => absurd c (by decide)) (fun _ => ?_)
            refine lv_iconst (v := nI 1) hx hb dX6_nodeAgain_58 (by decide) ?_
            refine lv_goto (tgt := 63) hx hb dX6_nodeAgain_59 (by decide) ?_
            exact hret _ _ _ dX6_nodeAgain_63 (Or.inr (Or.inr (Or.inl ⟨s, n, y, rfl, ⟨rfl, rfl, rfl, by omega, by omega, by omega, by omega, by omega, by omega, by first | assumption | omega⟩⟩)))
          · -- 52 f
            refine lv_if_eq (tgt := 62) hx hb dX6_nodeAgain_55 (by decide) (fun _ => ?_) (fun c => absurd c (by decide))
            refine lv_iconst (v := nI 0) hx hb dX6_nodeAgain_62 (by decide) ?_
            exact hret _ _ _ dX6_nodeAgain_63 (Or.inr (Or.inr (Or.inr (⟨s, n, y, rfl, ⟨rfl, rfl, rfl, by omega, by omega, by omega, by omega, by omega, by omega, by first | assumption | omega⟩⟩))))
        · -- 36 f
          refine lv_bipush (v := (-4)) hx hb dX6_nodeAgain_39 (by decide) ?_
          exact hret _ _ _ dX6_nodeAgain_41 (Or.inr (Or.inl ⟨s, n, y, rfl, ⟨rfl, rfl, rfl, by omega, by omega, by omega, by omega, by omega, by omega⟩⟩))
      · -- 15 f
        refine lv_if_ne (tgt := 23) hx hb dX6_nodeAgain_18 (by decide) (fun c => absurd c (by decide)) (fun _ => ?_)
        refine lv_iconst (v := (-1)) hx hb dX6_nodeAgain_21 (by decide) ?_
        exact hret _ _ _ dX6_nodeAgain_22 (Or.inl ⟨rfl, by intro q; first | exact absurd q (by assumption) | exact absurd q.1 (by assumption) | exact absurd q.2 (by assumption) | exact absurd q.2.1 (by assumption) | exact absurd q.2.2 (by assumption)⟩)
    · -- 8 f
      refine lv_if_eq (tgt := 21) hx hb dX6_nodeAgain_11 (by decide) (fun _ => ?_) (fun c => absurd c (by decide))
      refine lv_iconst (v := (-1)) hx hb dX6_nodeAgain_21 (by decide) ?_
      exact hret _ _ _ dX6_nodeAgain_22 (Or.inl ⟨rfl, by intro q; first | exact absurd q (by assumption) | exact absurd q.1 (by assumption) | exact absurd q.2 (by assumption) | exact absurd q.2.1 (by assumption) | exact absurd q.2.2 (by assumption)⟩)
  · -- 1 f
    refine lv_if_eq (tgt := 21) hx hb dX6_nodeAgain_4 (by decide) (fun _ => ?_) (fun c => absurd c (by decide))
    refine lv_iconst (v := (-1)) hx hb dX6_nodeAgain_21 (by decide) ?_
    exact hret _ _ _ dX6_nodeAgain_22 (Or.inl ⟨rfl, by intro q; first | exact absurd q (by assumption) | exact absurd q.1 (by assumption) | exact absurd q.2 (by assumption) | exact absurd q.2.1 (by assumption) | exact absurd q.2.2 (by assumption)⟩)
