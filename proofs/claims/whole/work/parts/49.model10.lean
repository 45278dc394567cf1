set_option maxHeartbeats 1000000 in
set_option maxRecDepth 100000 in
theorem c_X7_overStrings (l : Launch) (E : zE) (x ms mp mt md pz len sp fm w : Nat) (q1 q2 q3 q4 q5 : Int32) (M : Nat → Nat) (hn : M 0 ≤ 12) (hPb : ∀ i, i < 12 → mP M i ≤ 2400) (hHb : ∀ i, i < 12 → mH M i ≤ 2000) (hprn : ∀ i, i < 4 → mPr M i ≤ M 0) (hw : w ≤ 13) : zR l yX7_overStrings wsX7_overStrings ({ frames := 5, cells := 0, slots := 0, locals := 113 }) E [.ref x, .int (nI w)] [(x, .inr (7, [.ref ms, .ref mp, .int (nI pz), .ref mt, .int (nI len), .ref md, .int (nI sp), .int q1, .int q2, .int q3, .int q4, .int q5, .int (nI fm)])), (ms, .inl (E.2.1, 265, .inl (fun zz => nI (M zz))))] (fun r => r = nI (osL M w 4)) := by
  refine zR.start (own := RX7) rfl (by decide +kernel) rfl (Nat.le_of_ble_eq_true rfl) (fun _ _ => rfl) ?_
  intro pZ eZ sZ mZ argsZ belowZ methZ cZ QZ hF hret hP hG ls hl
  obtain ⟨hx, hb, hml, hown, hts⟩ := id hF
  have hl : lv_has ls 4 [(0, .ref x), (1, .int (nI w))] := hl
  refine lv_iconst (v := nI 0) hx hb dX7_overStrings_0 (by decide) ?_
  refine lv_istore_n (lv' := [(2, .int (nI 0)), (0, .ref x), (1, .int (nI w))]) hx hb dX7_overStrings_1 rfl hl (by decide) rfl (fun ls hl => ?_)
  refine lv_iconst (v := nI 0) hx hb dX7_overStrings_2 (by decide) ?_
  refine lv_istore_n (lv' := [(3, .int (nI 0)), (2, .int (nI 0)), (0, .ref x), (1, .int (nI w))]) hx hb dX7_overStrings_3 rfl hl (by decide) rfl (fun ls hl => ?_)
  have L4_1 : ∀ (fuelZ : Nat) (g : Nat), 4 - g < fuelZ → (g ≤ 4) → ∀ ls : Array Slot, lv_has ls 4 [(3, .int (nI g)), (2, .int (nI (osL M w g))), (0, .ref x), (1, .int (nI w))] → W pZ l eZ ({ frames := 5, cells := 0, slots := 0, locals := 113 }) sZ mZ argsZ belowZ methZ cZ sZ.heap [] 0 0 QZ (F0 mZ 4 ls []) := by
    intro fuelZ
    induction fuelZ with
    | zero => intro g hm; exact absurd hm (Nat.not_lt_zero _)
    | succ fuelZ ih4 =>
      intro g hm i1 ls hl
      refine lv_iload_n hx hb dX7_overStrings_4 rfl (lv_at hl 0 rfl) ?_
      refine lv_iconst (v := nI 4) hx hb dX7_overStrings_5 (by decide) ?_
      refine z_icmp_ge (a := g) (b := 4) (tgt := 45) hx hb dX7_overStrings_6 (by decide) (by omega) (by omega) (fun c2 => ?_) (fun c2 => ?_)
      · -- 6 t
        refine lv_iload_n hx hb dX7_overStrings_45 rfl (lv_at hl 1 rfl) ?_
        exact hret _ _ _ dX7_overStrings_46 (by rw [show g = 4 by omega])
      · -- 6 f
        refine lv_iload_n hx hb dX7_overStrings_9 rfl (lv_at hl 1 rfl) ?_
        refine lv_iload_n hx hb dX7_overStrings_10 rfl (lv_at hl 3 rfl) ?_
        refine lv_iconst (v := nI 5) hx hb dX7_overStrings_11 (by decide) ?_
        refine z_icmp_ne (a := w) (b := 5) (tgt := 24) hx hb dX7_overStrings_12 (by decide) (by omega) (by omega) (fun c3 => ?_) (fun c3 => ?_)
        · -- 12 t
          refine lv_aload_n hx hb dX7_overStrings_24 rfl (lv_at hl 2 rfl) ?_
          refine lv_iload_n hx hb dX7_overStrings_25 rfl (lv_at hl 0 rfl) ?_
          have hPc := zP_sub (w := [(x, .inr (7, [.ref ms, .ref mp, .int (nI pz), .ref mt, .int (nI len), .ref md, .int (nI sp), .int q1, .int q2, .int q3, .int q4, .int q5, .int (nI fm)])), (ms, .inl (E.2.1, 265, .inl (fun zz => nI (M zz))))]) hP [0, 1] rfl
          refine z_rd (fun _ h => h) (va_runV (As := [.int (nI g)]) (rest := [.int (nI (osL M w g))]) hF (c_X7_buzzes l E x ms mp mt md pz len sp fm g q1 q2 q3 q4 q5 M (by first | assumption | omega) (by first | assumption | omega) (by first | assumption | omega) (by first | assumption | omega) (by first | assumption | omega)) (cwV 1 hts gX7_overStrings_X7_buzzes rfl rfl rfl (by decide +kernel) ⟨Nat.le_of_ble_eq_true rfl, Nat.le_of_ble_eq_true rfl⟩) (z_preRV (va_recv hG.1 hP (ci := 7) (q0 := 0) rfl rfl) hPc hG) rfl rfl hl.1 rfl (lv_room (Nat.le_of_ble_eq_true rfl)) dX7_overStrings_26 ⟨Nat.zero_le _, Nat.zero_le _⟩) (fun r4 hr4 => ?_)
          rcases hr4 with ⟨rfl, c5⟩ | ⟨rfl, c5⟩
          · -- 26 t
            refine lv_if_eq (tgt := 36) hx hb dX7_overStrings_29 (by decide) (fun c => absurd c (by decide)) (fun _ => ?_)
            refine lv_iconst (v := nI 1) hx hb dX7_overStrings_32 (by decide) ?_
            refine lv_goto (tgt := 37) hx hb dX7_overStrings_33 (by decide) ?_
            refine z_iadd (a := osL M w g) (b := 1) hx hb dX7_overStrings_37 ?_
            refine lv_istore_n (lv' := [(2, .int (nI ((osL M w g) + 1))), (3, .int (nI g)), (0, .ref x), (1, .int (nI w))]) hx hb dX7_overStrings_38 rfl hl (by decide) rfl (fun ls hl => ?_)
            refine z_iinc (k := 1) (d := 1) (lv' := [(3, .int (nI (g + 1))), (2, .int (nI ((osL M w g) + 1))), (0, .ref x), (1, .int (nI w))]) hx hb dX7_overStrings_39 (by decide) hl rfl (by decide) rfl (fun ls hl => ?_)
            refine lv_goto (tgt := 4) hx hb dX7_overStrings_42 (by decide) ?_
            have e6 : nI ((osL M w g) + 1) = nI (osL M w (g + 1)) := by simp only [osL]; first | rw [if_pos (by omega)] | rw [if_neg (by omega), if_pos (by assumption)] | rw [if_neg (by omega), if_neg (by omega)]
            have hl : lv_has ls 4 [(3, .int (nI (g + 1))), (2, .int (nI (osL M w (g + 1)))), (0, .ref x), (1, .int (nI w))] := Eq.subst (motive := fun XX : Int32 => lv_has ls 4 [(3, .int (nI (g + 1))), (2, .int XX), (0, .ref x), (1, .int (nI w))]) e6 hl
            exact ih4 (g + 1) (by omega) (by omega) _ (lv_sub hl [0, 1, 2, 3] rfl)
          · -- 26 f
            refine lv_if_eq (tgt := 36) hx hb dX7_overStrings_29 (by decide) (fun _ => ?_) (fun c => absurd c (by decide))
            refine lv_iconst (v := nI 0) hx hb dX7_overStrings_36 (by decide) ?_
            refine z_iadd (a := osL M w g) (b := 0) hx hb dX7_overStrings_37 ?_
            refine lv_istore_n (lv' := [(2, .int (nI ((osL M w g) + 0))), (3, .int (nI g)), (0, .ref x), (1, .int (nI w))]) hx hb dX7_overStrings_38 rfl hl (by decide) rfl (fun ls hl => ?_)
            refine z_iinc (k := 1) (d := 1) (lv' := [(3, .int (nI (g + 1))), (2, .int (nI ((osL M w g) + 0))), (0, .ref x), (1, .int (nI w))]) hx hb dX7_overStrings_39 (by decide) hl rfl (by decide) rfl (fun ls hl => ?_)
            refine lv_goto (tgt := 4) hx hb dX7_overStrings_42 (by decide) ?_
            have e7 : nI ((osL M w g) + 0) = nI (osL M w (g + 1)) := by simp only [osL]; first | rw [if_pos (by omega)] | rw [if_neg (by omega), if_pos (by assumption)] | rw [if_neg (by omega), if_neg (by omega)]
            have hl : lv_has ls 4 [(3, .int (nI (g + 1))), (2, .int (nI (osL M w (g + 1)))), (0, .ref x), (1, .int (nI w))] := Eq.subst (motive := fun XX : Int32 => lv_has ls 4 [(3, .int (nI (g + 1))), (2, .int XX), (0, .ref x), (1, .int (nI w))]) e7 hl
            exact ih4 (g + 1) (by omega) (by omega) _ (lv_sub hl [0, 1, 2, 3] rfl)
        · -- 12 f
          refine lv_aload_n hx hb dX7_overStrings_15 rfl (lv_at hl 2 rfl) ?_
          refine lv_iload_n hx hb dX7_overStrings_16 rfl (lv_at hl 0 rfl) ?_
          refine lv_iconst (v := nI 3) hx hb dX7_overStrings_17 (by decide) ?_
          have hPc := zP_sub (w := [(x, .inr (7, [.ref ms, .ref mp, .int (nI pz), .ref mt, .int (nI len), .ref md, .int (nI sp), .int q1, .int q2, .int q3, .int q4, .int q5, .int (nI fm)])), (ms, .inl (E.2.1, 265, .inl (fun zz => nI (M zz))))]) hP [0, 1] rfl
          refine z_rd (fun _ h => h) (va_runV (As := [.int (nI g), .int (nI 3)]) (rest := [.int (nI (osL M w g))]) hF (c_X7_of l E x ms mp mt md pz len sp fm g 3 q1 q2 q3 q4 q5 M (by first | assumption | omega) (by first | assumption | omega)) (cwV 2 hts gX7_overStrings_X7_of rfl rfl rfl (by decide +kernel) ⟨Nat.le_of_ble_eq_true rfl, Nat.le_of_ble_eq_true rfl⟩) (z_preRV (va_recv hG.1 hP (ci := 7) (q0 := 0) rfl rfl) hPc hG) rfl rfl hl.1 rfl (lv_room (Nat.le_of_ble_eq_true rfl)) dX7_overStrings_18 ⟨Nat.zero_le _, Nat.zero_le _⟩) (fun r8 hr8 => ?_)
          subst hr8
          refine lv_goto (tgt := 37) hx hb dX7_overStrings_21 (by decide) ?_
          refine z_iadd (a := osL M w g) (b := M (45 + 4 * g + 3)) hx hb dX7_overStrings_37 ?_
          refine lv_istore_n (lv' := [(2, .int (nI ((osL M w g) + (M (45 + 4 * g + 3))))), (3, .int (nI g)), (0, .ref x), (1, .int (nI w))]) hx hb dX7_overStrings_38 rfl hl (by decide) rfl (fun ls hl => ?_)
          refine z_iinc (k := 1) (d := 1) (lv' := [(3, .int (nI (g + 1))), (2, .int (nI ((osL M w g) + (M (45 + 4 * g + 3))))), (0, .ref x), (1, .int (nI w))]) hx hb dX7_overStrings_39 (by decide) hl rfl (by decide) rfl (fun ls hl => ?_)
          refine lv_goto (tgt := 4) hx hb dX7_overStrings_42 (by decide) ?_
          have e9 : nI ((osL M w g) + (M (45 + 4 * g + 3))) = nI (osL M w (g + 1)) := by simp only [osL]; first | rw [if_pos (by omega)] | rw [if_neg (by omega), if_pos (by assumption)] | rw [if_neg (by omega), if_neg (by omega)]
          have hl : lv_has ls 4 [(3, .int (nI (g + 1))), (2, .int (nI (osL M w (g + 1)))), (0, .ref x), (1, .int (nI w))] := Eq.subst (motive := fun XX : Int32 => lv_has ls 4 [(3, .int (nI (g + 1))), (2, .int XX), (0, .ref x), (1, .int (nI w))]) e9 hl
          exact ih4 (g + 1) (by omega) (by omega) _ (lv_sub hl [0, 1, 2, 3] rfl)
  have e10 : nI 0 = nI (osL M w 0) := by rfl
  have hl : lv_has ls 4 [(3, .int (nI 0)), (2, .int (nI (osL M w 0))), (0, .ref x), (1, .int (nI w))] := Eq.subst (motive := fun XX : Int32 => lv_has ls 4 [(3, .int (nI 0)), (2, .int XX), (0, .ref x), (1, .int (nI w))]) e10 hl
  exact L4_1 ((4 - 0) + 1) 0 (Nat.lt_succ_self _) (by omega) _ (lv_sub hl [0, 1, 2, 3] rfl)
theorem iwX7_count_X7_c_X7_count : ∀ w ∈ wsX70, w ∈ wsX7_count := by decide +kernel
set_option maxHeartbeats 1000000 in
set_option maxRecDepth 100000 in
theorem c_X7_count (l : Launch) (E : zE) (x ms mp mt md pz len sp fm : Nat) (q1 q2 q3 q4 q5 a : Int32) (M : Nat → Nat) (hn : M 0 ≤ 12) (hPb : ∀ i, i < 12 → mP M i ≤ 2400) (hHb : ∀ i, i < 12 → mH M i ≤ 2000) (hprn : ∀ i, i < 4 → mPr M i ≤ M 0) (ham : ∀ i, i < 48 → mAm M i ≤ 1000000) (hse4 : M 8 ≤ 100000) : zR l yX7_count wsX7_count ({ frames := 6, cells := 0, slots := 0, locals := 136 }) E [.ref x, .int a] [(x, .inr (7, [.ref ms, .ref mp, .int (nI pz), .ref mt, .int (nI len), .ref md, .int (nI sp), .int q1, .int q2, .int q3, .int q4, .int q5, .int (nI fm)])), (ms, .inl (E.2.1, 265, .inl (fun zz => nI (M zz))))] (fun r => (r = (-1) ∧ (¬ (nI 0 ≤ a ∧ a ≤ nI 13))) ∨ (∃ (k : Nat) (r9 : Int32), r = r9 ∧ (a = nI k ∧ k ≤ 13 ∧ r9 = ctA M pz len k))) := by
  refine zR.start (own := RX7) rfl (by decide +kernel) rfl (Nat.le_of_ble_eq_true rfl) (fun _ _ => rfl) ?_
  intro pZ eZ sZ mZ argsZ belowZ methZ cZ QZ hF hret hP hG ls hl
  obtain ⟨hx, hb, hml, hown, hts⟩ := id hF
  have hl : lv_has ls 2 [(0, .ref x), (1, .int a)] := hl
  refine lv_iload_n hx hb dX7_count_0 rfl (lv_at hl 1 rfl) ?_
  rcases z_tab a 13 (by decide) with c1 | ⟨kZ, c1, rfl⟩
  · -- 1 out
    refine lv_tableOut (tgt := 114) hx hb dX7_count_1 c1 (by decide) ?_
    refine lv_iload_n hx hb dX7_count_114 rfl (lv_at hl 1 rfl) ?_
    refine lv_bipush (v := nI 7) hx hb dX7_count_115 (by decide) ?_
    refine lv_bipush (v := nI 11) hx hb dX7_count_117 (by decide) ?_
    refine z_rd (fun _ h => h) (va_runS (As := [.int a, .int (nI 7), .int (nI 11)]) (rest := []) hF (c_X7_in l E a (nI 7) (nI 11) ) (va_cwS 3 hts gX7_count_X7_in rfl rfl rfl (by decide +kernel) ⟨Nat.le_of_ble_eq_true rfl, Nat.le_of_ble_eq_true rfl⟩) (z_preR (fun k q h => by simp at h) hG) rfl rfl hl.1 rfl (lv_room (Nat.le_of_ble_eq_true rfl)) dX7_count_119 ⟨Nat.zero_le _, Nat.zero_le _⟩) (fun r2 hr2 => ?_)
    rcases hr2 with ⟨rfl, c3⟩ | ⟨rfl, c3⟩
    · -- 119 t
      exact absurd c3 (isL_7 c1)
    · -- 119 f
      refine lv_if_eq (tgt := 136) hx hb dX7_count_122 (by decide) (fun _ => ?_) (fun c => absurd c (by decide))
      refine lv_iconst (v := (-1)) hx hb dX7_count_136 (by decide) ?_
      exact hret _ _ _ dX7_count_137 (Or.inl ⟨rfl, isL_0 c1⟩)
  · -- 1 in
    obtain hk | hk | hk | hk | hk | hk | hk | hk | hk | hk | hk | hk | hk | hk : kZ = 0 ∨ kZ = 1 ∨ kZ = 2 ∨ kZ = 3 ∨ kZ = 4 ∨ kZ = 5 ∨ kZ = 6 ∨ kZ = 7 ∨ kZ = 8 ∨ kZ = 9 ∨ kZ = 10 ∨ kZ = 11 ∨ kZ = 12 ∨ kZ = 13 := by omega
    · -- 1 case 0
      subst hk
      refine lv_tableIn (tgt := 72) (off := 71) hx hb dX7_count_1 (by decide) (by decide) (by decide) (by decide) ?_
      have hl : lv_has ls 2 [(0, .ref x), (1, .int (nI 0))] := hl
      refine lv_aload_n hx hb dX7_count_72 rfl (lv_at hl 0 rfl) ?_
      refine va_get (D := E.1) (ci := 7) (v := .ref ms) (C := RX7) (T := TX7) (N := 13) hx hb hts iwX7_count_X7_c_X7_count hown hG.1 hP 0 rfl rfl 0 (by decide) (hts (.fieldLink RX7 7 "FrettedStringsModel" "st" "[I") (by decide +kernel)) (fun _ h9 => h9) rfl dX7_count_73 ?_
      refine lv_iload_n hx hb dX7_count_76 rfl (lv_at hl 1 rfl) ?_
      refine z_iald (j := 0) (v := M 0) hx hb hG hP 1 rfl (by omega) (by decide) (rfl) dX7_count_77 ?_
      exact hret _ _ _ dX7_count_78 (Or.inr (⟨0, (nI (M 0)), by first | rfl | (congr 1; omega), ⟨rfl, by omega, by unfold ctA; (repeat' split) <;> first | rfl | (exfalso; omega)⟩⟩))
    · -- 1 case 1
      subst hk
      refine lv_tableIn (tgt := 72) (off := 71) hx hb dX7_count_1 (by decide) (by decide) (by decide) (by decide) ?_
      have hl : lv_has ls 2 [(0, .ref x), (1, .int (nI 1))] := hl
      refine lv_aload_n hx hb dX7_count_72 rfl (lv_at hl 0 rfl) ?_
      refine va_get (D := E.1) (ci := 7) (v := .ref ms) (C := RX7) (T := TX7) (N := 13) hx hb hts iwX7_count_X7_c_X7_count hown hG.1 hP 0 rfl rfl 0 (by decide) (hts (.fieldLink RX7 7 "FrettedStringsModel" "st" "[I") (by decide +kernel)) (fun _ h9 => h9) rfl dX7_count_73 ?_
      refine lv_iload_n hx hb dX7_count_76 rfl (lv_at hl 1 rfl) ?_
      refine z_iald (j := 1) (v := M 1) hx hb hG hP 1 rfl (by omega) (by decide) (rfl) dX7_count_77 ?_
      exact hret _ _ _ dX7_count_78 (Or.inr (⟨1, (nI (M 1)), by first | rfl | (congr 1; omega), ⟨rfl, by omega, by unfold ctA; (repeat' split) <;> first | rfl | (exfalso; omega)⟩⟩))
    · -- 1 case 2
      subst hk
      refine lv_tableIn (tgt := 79) (off := 78) hx hb dX7_count_1 (by decide) (by decide) (by decide) (by decide) ?_
      have hl : lv_has ls 2 [(0, .ref x), (1, .int (nI 2))] := hl
      refine lv_aload_n hx hb dX7_count_79 rfl (lv_at hl 0 rfl) ?_
      have hPc := zP_sub (w := [(x, .inr (7, [.ref ms, .ref mp, .int (nI pz), .ref mt, .int (nI len), .ref md, .int (nI sp), .int q1, .int q2, .int q3, .int q4, .int q5, .int (nI fm)])), (ms, .inl (E.2.1, 265, .inl (fun zz => nI (M zz))))]) hP [0, 1] rfl
      refine z_rd (fun _ h => h) (va_runV (As := []) (rest := []) hF (c_X7_heardOnes l E x ms mp mt md pz len sp fm q1 q2 q3 q4 q5 M (by first | assumption | omega) (by first | assumption | omega)) (cwV 0 hts gX7_count_X7_heardOnes rfl rfl rfl (by decide +kernel) ⟨Nat.le_of_ble_eq_true rfl, Nat.le_of_ble_eq_true rfl⟩) (z_preRV (va_recv hG.1 hP (ci := 7) (q0 := 0) rfl rfl) hPc hG) rfl rfl hl.1 rfl (lv_room (Nat.le_of_ble_eq_true rfl)) dX7_count_80 ⟨Nat.zero_le _, Nat.zero_le _⟩) (fun r4 hr4 => ?_)
      subst hr4
      exact hret _ _ _ dX7_count_83 (Or.inr (⟨2, (nI (hrL (mAm M) (M 8) 4)), by first | rfl | (congr 1; omega), ⟨rfl, by omega, by unfold ctA; (repeat' split) <;> first | rfl | (exfalso; omega)⟩⟩))
    · -- 1 case 3
      subst hk
      refine lv_tableIn (tgt := 84) (off := 83) hx hb dX7_count_1 (by decide) (by decide) (by decide) (by decide) ?_
      have hl : lv_has ls 2 [(0, .ref x), (1, .int (nI 3))] := hl
      refine lv_aload_n hx hb dX7_count_84 rfl (lv_at hl 0 rfl) ?_
      refine lv_iload_n hx hb dX7_count_85 rfl (lv_at hl 1 rfl) ?_
      have hPc := zP_sub (w := [(x, .inr (7, [.ref ms, .ref mp, .int (nI pz), .ref mt, .int (nI len), .ref md, .int (nI sp), .int q1, .int q2, .int q3, .int q4, .int q5, .int (nI fm)])), (ms, .inl (E.2.1, 265, .inl (fun zz => nI (M zz))))]) hP [0, 1] rfl
      refine z_rd (fun _ h => h) (va_runV (As := [.int (nI 3)]) (rest := []) hF (c_X7_overStrings l E x ms mp mt md pz len sp fm 3 q1 q2 q3 q4 q5 M (by first | assumption | omega) (by first | assumption | omega) (by first | assumption | omega) (by first | assumption | omega) (by first | assumption | omega)) (cwV 1 hts gX7_count_X7_overStrings rfl rfl rfl (by decide +kernel) ⟨Nat.le_of_ble_eq_true rfl, Nat.le_of_ble_eq_true rfl⟩) (z_preRV (va_recv hG.1 hP (ci := 7) (q0 := 0) rfl rfl) hPc hG) rfl rfl hl.1 rfl (lv_room (Nat.le_of_ble_eq_true rfl)) dX7_count_86 ⟨Nat.zero_le _, Nat.zero_le _⟩) (fun r5 hr5 => ?_)
      subst hr5
      exact hret _ _ _ dX7_count_89 (Or.inr (⟨3, (nI (osL M 3 4)), by first | rfl | (congr 1; omega), ⟨rfl, by omega, by unfold ctA; (repeat' split) <;> first | rfl | (exfalso; omega)⟩⟩))
    · -- 1 case 4
      subst hk
      refine lv_tableIn (tgt := 90) (off := 89) hx hb dX7_count_1 (by decide) (by decide) (by decide) (by decide) ?_
      have hl : lv_has ls 2 [(0, .ref x), (1, .int (nI 4))] := hl
      refine lv_aload_n hx hb dX7_count_90 rfl (lv_at hl 0 rfl) ?_
      refine va_get (D := E.1) (ci := 7) (v := .ref ms) (C := RX7) (T := TX7) (N := 13) hx hb hts iwX7_count_X7_c_X7_count hown hG.1 hP 0 rfl rfl 0 (by decide) (hts (.fieldLink RX7 7 "FrettedStringsModel" "st" "[I") (by decide +kernel)) (fun _ h9 => h9) rfl dX7_count_91 ?_
      refine lv_iconst (v := nI 3) hx hb dX7_count_94 (by decide) ?_
      refine z_iald (j := 3) (v := M 3) hx hb hG hP 1 rfl (by omega) (by decide) (rfl) dX7_count_95 ?_
      exact hret _ _ _ dX7_count_96 (Or.inr (⟨4, (nI (M 3)), by first | rfl | (congr 1; omega), ⟨rfl, by omega, by unfold ctA; (repeat' split) <;> first | rfl | (exfalso; omega)⟩⟩))
    · -- 1 case 5
      subst hk
      refine lv_tableIn (tgt := 84) (off := 83) hx hb dX7_count_1 (by decide) (by decide) (by decide) (by decide) ?_
      have hl : lv_has ls 2 [(0, .ref x), (1, .int (nI 5))] := hl
      refine lv_aload_n hx hb dX7_count_84 rfl (lv_at hl 0 rfl) ?_
      refine lv_iload_n hx hb dX7_count_85 rfl (lv_at hl 1 rfl) ?_
      have hPc := zP_sub (w := [(x, .inr (7, [.ref ms, .ref mp, .int (nI pz), .ref mt, .int (nI len), .ref md, .int (nI sp), .int q1, .int q2, .int q3, .int q4, .int q5, .int (nI fm)])), (ms, .inl (E.2.1, 265, .inl (fun zz => nI (M zz))))]) hP [0, 1] rfl
      refine z_rd (fun _ h => h) (va_runV (As := [.int (nI 5)]) (rest := []) hF (c_X7_overStrings l E x ms mp mt md pz len sp fm 5 q1 q2 q3 q4 q5 M (by first | assumption | omega) (by first | assumption | omega) (by first | assumption | omega) (by first | assumption | omega) (by first | assumption | omega)) (cwV 1 hts gX7_count_X7_overStrings rfl rfl rfl (by decide +kernel) ⟨Nat.le_of_ble_eq_true rfl, Nat.le_of_ble_eq_true rfl⟩) (z_preRV (va_recv hG.1 hP (ci := 7) (q0 := 0) rfl rfl) hPc hG) rfl rfl hl.1 rfl (lv_room (Nat.le_of_ble_eq_true rfl)) dX7_count_86 ⟨Nat.zero_le _, Nat.zero_le _⟩) (fun r6 hr6 => ?_)
      subst hr6
      exact hret _ _ _ dX7_count_89 (Or.inr (⟨5, (nI (osL M 5 4)), by first | rfl | (congr 1; omega), ⟨rfl, by omega, by unfold ctA; (repeat' split) <;> first | rfl | (exfalso; omega)⟩⟩))
    · -- 1 case 6
      subst hk
      refine lv_tableIn (tgt := 97) (off := 96) hx hb dX7_count_1 (by decide) (by decide) (by decide) (by decide) ?_
      have hl : lv_has ls 2 [(0, .ref x), (1, .int (nI 6))] := hl
      refine lv_aload_n hx hb dX7_count_97 rfl (lv_at hl 0 rfl) ?_
      refine va_get (D := E.1) (ci := 7) (v := .ref ms) (C := RX7) (T := TX7) (N := 13) hx hb hts iwX7_count_X7_c_X7_count hown hG.1 hP 0 rfl rfl 0 (by decide) (hts (.fieldLink RX7 7 "FrettedStringsModel" "st" "[I") (by decide +kernel)) (fun _ h9 => h9) rfl dX7_count_98 ?_
      refine lv_iconst (v := nI 2) hx hb dX7_count_101 (by decide) ?_
      refine z_iald (j := 2) (v := M 2) hx hb hG hP 1 rfl (by omega) (by decide) (rfl) dX7_count_102 ?_
      exact hret _ _ _ dX7_count_103 (Or.inr (⟨6, (nI (M 2)), by first | rfl | (congr 1; omega), ⟨rfl, by omega, by unfold ctA; (repeat' split) <;> first | rfl | (exfalso; omega)⟩⟩))
    · -- 1 case 7
      subst hk
      refine lv_tableIn (tgt := 114) (off := 113) hx hb dX7_count_1 (by decide) (by decide) (by decide) (by decide) ?_
      have hl : lv_has ls 2 [(0, .ref x), (1, .int (nI 7))] := hl
      refine lv_iload_n hx hb dX7_count_114 rfl (lv_at hl 1 rfl) ?_
      refine lv_bipush (v := nI 7) hx hb dX7_count_115 (by decide) ?_
      refine lv_bipush (v := nI 11) hx hb dX7_count_117 (by decide) ?_
      refine z_rd (fun _ h => h) (va_runS (As := [.int (nI 7), .int (nI 7), .int (nI 11)]) (rest := []) hF (c_X7_in l E (nI 7) (nI 7) (nI 11) ) (va_cwS 3 hts gX7_count_X7_in rfl rfl rfl (by decide +kernel) ⟨Nat.le_of_ble_eq_true rfl, Nat.le_of_ble_eq_true rfl⟩) (z_preR (fun k q h => by simp at h) hG) rfl rfl hl.1 rfl (lv_room (Nat.le_of_ble_eq_true rfl)) dX7_count_119 ⟨Nat.zero_le _, Nat.zero_le _⟩) (fun r7 hr7 => ?_)
      rcases hr7 with ⟨rfl, c8⟩ | ⟨rfl, c8⟩
      · -- 119 t
        refine lv_if_eq (tgt := 136) hx hb dX7_count_122 (by decide) (fun c => absurd c (by decide)) (fun _ => ?_)
        refine lv_aload_n hx hb dX7_count_125 rfl (lv_at hl 0 rfl) ?_
        refine lv_iload_n hx hb dX7_count_126 rfl (lv_at hl 1 rfl) ?_
        refine lv_bipush (v := nI 7) hx hb dX7_count_127 (by decide) ?_
        refine z_isub (a := 7) (b := 7) hx hb dX7_count_129 (by omega) ?_
        have hPc := zP_sub (w := [(x, .inr (7, [.ref ms, .ref mp, .int (nI pz), .ref mt, .int (nI len), .ref md, .int (nI sp), .int q1, .int q2, .int q3, .int q4, .int q5, .int (nI fm)])), (ms, .inl (E.2.1, 265, .inl (fun zz => nI (M zz))))]) hP [0, 1] rfl
        refine z_rd (fun _ h => h) (va_runV (As := [.int (nI (7 - 7))]) (rest := []) hF (c_X7_setting l E x ms mp mt md pz len sp fm (7 - 7) q1 q2 q3 q4 q5 M (by first | assumption | omega)) (cwV 1 hts gX7_count_X7_setting rfl rfl rfl (by decide +kernel) ⟨Nat.le_of_ble_eq_true rfl, Nat.le_of_ble_eq_true rfl⟩) (z_preRV (va_recv hG.1 hP (ci := 7) (q0 := 0) rfl rfl) hPc hG) rfl rfl hl.1 rfl (lv_room (Nat.le_of_ble_eq_true rfl)) dX7_count_130 ⟨Nat.zero_le _, Nat.zero_le _⟩) (fun r9 hr9 => ?_)
        subst hr9
        refine lv_goto (tgt := 137) hx hb dX7_count_133 (by decide) ?_
        exact hret _ _ _ dX7_count_137 (Or.inr (⟨7, (nI (M (4 + (7 - 7)))), by first | rfl | (congr 1; omega), ⟨rfl, by omega, by unfold ctA; (repeat' split) <;> first | rfl | (exfalso; omega)⟩⟩))
      · -- 119 f
        exact absurd (by decide) c8
    · -- 1 case 8
      subst hk
      refine lv_tableIn (tgt := 114) (off := 113) hx hb dX7_count_1 (by decide) (by decide) (by decide) (by decide) ?_
      have hl : lv_has ls 2 [(0, .ref x), (1, .int (nI 8))] := hl
      refine lv_iload_n hx hb dX7_count_114 rfl (lv_at hl 1 rfl) ?_
      refine lv_bipush (v := nI 7) hx hb dX7_count_115 (by decide) ?_
      refine lv_bipush (v := nI 11) hx hb dX7_count_117 (by decide) ?_
      refine z_rd (fun _ h => h) (va_runS (As := [.int (nI 8), .int (nI 7), .int (nI 11)]) (rest := []) hF (c_X7_in l E (nI 8) (nI 7) (nI 11) ) (va_cwS 3 hts gX7_count_X7_in rfl rfl rfl (by decide +kernel) ⟨Nat.le_of_ble_eq_true rfl, Nat.le_of_ble_eq_true rfl⟩) (z_preR (fun k q h => by simp at h) hG) rfl rfl hl.1 rfl (lv_room (Nat.le_of_ble_eq_true rfl)) dX7_count_119 ⟨Nat.zero_le _, Nat.zero_le _⟩) (fun r10 hr10 => ?_)
      rcases hr10 with ⟨rfl, c11⟩ | ⟨rfl, c11⟩
      · -- 119 t
        refine lv_if_eq (tgt := 136) hx hb dX7_count_122 (by decide) (fun c => absurd c (by decide)) (fun _ => ?_)
        refine lv_aload_n hx hb dX7_count_125 rfl (lv_at hl 0 rfl) ?_
        refine lv_iload_n hx hb dX7_count_126 rfl (lv_at hl 1 rfl) ?_
        refine lv_bipush (v := nI 7) hx hb dX7_count_127 (by decide) ?_
        refine z_isub (a := 8) (b := 7) hx hb dX7_count_129 (by omega) ?_
        have hPc := zP_sub (w := [(x, .inr (7, [.ref ms, .ref mp, .int (nI pz), .ref mt, .int (nI len), .ref md, .int (nI sp), .int q1, .int q2, .int q3, .int q4, .int q5, .int (nI fm)])), (ms, .inl (E.2.1, 265, .inl (fun zz => nI (M zz))))]) hP [0, 1] rfl
        refine z_rd (fun _ h => h) (va_runV (As := [.int (nI (8 - 7))]) (rest := []) hF (c_X7_setting l E x ms mp mt md pz len sp fm (8 - 7) q1 q2 q3 q4 q5 M (by first | assumption | omega)) (cwV 1 hts gX7_count_X7_setting rfl rfl rfl (by decide +kernel) ⟨Nat.le_of_ble_eq_true rfl, Nat.le_of_ble_eq_true rfl⟩) (z_preRV (va_recv hG.1 hP (ci := 7) (q0 := 0) rfl rfl) hPc hG) rfl rfl hl.1 rfl (lv_room (Nat.le_of_ble_eq_true rfl)) dX7_count_130 ⟨Nat.zero_le _, Nat.zero_le _⟩) (fun r12 hr12 => ?_)
        subst hr12
        refine lv_goto (tgt := 137) hx hb dX7_count_133 (by decide) ?_
        exact hret _ _ _ dX7_count_137 (Or.inr (⟨8, (nI (M (4 + (8 - 7)))), by first | rfl | (congr 1; omega), ⟨rfl, by omega, by unfold ctA; (repeat' split) <;> first | rfl | (exfalso; omega)⟩⟩))
      · -- 119 f
        exact absurd (by decide) c11
    · -- 1 case 9
      subst hk
      refine lv_tableIn (tgt := 114) (off := 113) hx hb dX7_count_1 (by decide) (by decide) (by decide) (by decide) ?_
      have hl : lv_has ls 2 [(0, .ref x), (1, .int (nI 9))] := hl
      refine lv_iload_n hx hb dX7_count_114 rfl (lv_at hl 1 rfl) ?_
      refine lv_bipush (v := nI 7) hx hb dX7_count_115 (by decide) ?_
      refine lv_bipush (v := nI 11) hx hb dX7_count_117 (by decide) ?_
      refine z_rd (fun _ h => h) (va_runS (As := [.int (nI 9), .int (nI 7), .int (nI 11)]) (rest := []) hF (c_X7_in l E (nI 9) (nI 7) (nI 11) ) (va_cwS 3 hts gX7_count_X7_in rfl rfl rfl (by decide +kernel) ⟨Nat.le_of_ble_eq_true rfl, Nat.le_of_ble_eq_true rfl⟩) (z_preR (fun k q h => by simp at h) hG) rfl rfl hl.1 rfl (lv_room (Nat.le_of_ble_eq_true rfl)) dX7_count_119 ⟨Nat.zero_le _, Nat.zero_le _⟩) (fun r13 hr13 => ?_)
      rcases hr13 with ⟨rfl, c14⟩ | ⟨rfl, c14⟩
      · -- 119 t
        refine lv_if_eq (tgt := 136) hx hb dX7_count_122 (by decide) (fun c => absurd c (by decide)) (fun _ => ?_)
        refine lv_aload_n hx hb dX7_count_125 rfl (lv_at hl 0 rfl) ?_
        refine lv_iload_n hx hb dX7_count_126 rfl (lv_at hl 1 rfl) ?_
        refine lv_bipush (v := nI 7) hx hb dX7_count_127 (by decide) ?_
        refine z_isub (a := 9) (b := 7) hx hb dX7_count_129 (by omega) ?_
        have hPc := zP_sub (w := [(x, .inr (7, [.ref ms, .ref mp, .int (nI pz), .ref mt, .int (nI len), .ref md, .int (nI sp), .int q1, .int q2, .int q3, .int q4, .int q5, .int (nI fm)])), (ms, .inl (E.2.1, 265, .inl (fun zz => nI (M zz))))]) hP [0, 1] rfl
        refine z_rd (fun _ h => h) (va_runV (As := [.int (nI (9 - 7))]) (rest := []) hF (c_X7_setting l E x ms mp mt md pz len sp fm (9 - 7) q1 q2 q3 q4 q5 M (by first | assumption | omega)) (cwV 1 hts gX7_count_X7_setting rfl rfl rfl (by decide +kernel) ⟨Nat.le_of_ble_eq_true rfl, Nat.le_of_ble_eq_true rfl⟩) (z_preRV (va_recv hG.1 hP (ci := 7) (q0 := 0) rfl rfl) hPc hG) rfl rfl hl.1 rfl (lv_room (Nat.le_of_ble_eq_true rfl)) dX7_count_130 ⟨Nat.zero_le _, Nat.zero_le _⟩) (fun r15 hr15 => ?_)
        subst hr15
        refine lv_goto (tgt := 137) hx hb dX7_count_133 (by decide) ?_
        exact hret _ _ _ dX7_count_137 (Or.inr (⟨9, (nI (M (4 + (9 - 7)))), by first | rfl | (congr 1; omega), ⟨rfl, by omega, by unfold ctA; (repeat' split) <;> first | rfl | (exfalso; omega)⟩⟩))
      · -- 119 f
        exact absurd (by decide) c14
    · -- 1 case 10
      subst hk
      refine lv_tableIn (tgt := 114) (off := 113) hx hb dX7_count_1 (by decide) (by decide) (by decide) (by decide) ?_
      have hl : lv_has ls 2 [(0, .ref x), (1, .int (nI 10))] := hl
      refine lv_iload_n hx hb dX7_count_114 rfl (lv_at hl 1 rfl) ?_
      refine lv_bipush (v := nI 7) hx hb dX7_count_115 (by decide) ?_
      refine lv_bipush (v := nI 11) hx hb dX7_count_117 (by decide) ?_
      refine z_rd (fun _ h => h) (va_runS (As := [.int (nI 10), .int (nI 7), .int (nI 11)]) (rest := []) hF (c_X7_in l E (nI 10) (nI 7) (nI 11) ) (va_cwS 3 hts gX7_count_X7_in rfl rfl rfl (by decide +kernel) ⟨Nat.le_of_ble_eq_true rfl, Nat.le_of_ble_eq_true rfl⟩) (z_preR (fun k q h => by simp at h) hG) rfl rfl hl.1 rfl (lv_room (Nat.le_of_ble_eq_true rfl)) dX7_count_119 ⟨Nat.zero_le _, Nat.zero_le _⟩) (fun r16 hr16 => ?_)
      rcases hr16 with ⟨rfl, c17⟩ | ⟨rfl, c17⟩
      · -- 119 t
        refine lv_if_eq (tgt := 136) hx hb dX7_count_122 (by decide) (fun c => absurd c (by decide)) (fun _ => ?_)
        refine lv_aload_n hx hb dX7_count_125 rfl (lv_at hl 0 rfl) ?_
        refine lv_iload_n hx hb dX7_count_126 rfl (lv_at hl 1 rfl) ?_
        refine lv_bipush (v := nI 7) hx hb dX7_count_127 (by decide) ?_
        refine z_isub (a := 10) (b := 7) hx hb dX7_count_129 (by omega) ?_
        have hPc := zP_sub (w := [(x, .inr (7, [.ref ms, .ref mp, .int (nI pz), .ref mt, .int (nI len), .ref md, .int (nI sp), .int q1, .int q2, .int q3, .int q4, .int q5, .int (nI fm)])), (ms, .inl (E.2.1, 265, .inl (fun zz => nI (M zz))))]) hP [0, 1] rfl
        refine z_rd (fun _ h => h) (va_runV (As := [.int (nI (10 - 7))]) (rest := []) hF (c_X7_setting l E x ms mp mt md pz len sp fm (10 - 7) q1 q2 q3 q4 q5 M (by first | assumption | omega)) (cwV 1 hts gX7_count_X7_setting rfl rfl rfl (by decide +kernel) ⟨Nat.le_of_ble_eq_true rfl, Nat.le_of_ble_eq_true rfl⟩) (z_preRV (va_recv hG.1 hP (ci := 7) (q0 := 0) rfl rfl) hPc hG) rfl rfl hl.1 rfl (lv_room (Nat.le_of_ble_eq_true rfl)) dX7_count_130 ⟨Nat.zero_le _, Nat.zero_le _⟩) (fun r18 hr18 => ?_)
        subst hr18
        refine lv_goto (tgt := 137) hx hb dX7_count_133 (by decide) ?_
        exact hret _ _ _ dX7_count_137 (Or.inr (⟨10, (nI (M (4 + (10 - 7)))), by first | rfl | (congr 1; omega), ⟨rfl, by omega, by unfold ctA; (repeat' split) <;> first | rfl | (exfalso; omega)⟩⟩))
      · -- 119 f
        exact absurd (by decide) c17
    · -- 1 case 11
      subst hk
      refine lv_tableIn (tgt := 114) (off := 113) hx hb dX7_count_1 (by decide) (by decide) (by decide) (by decide) ?_
      have hl : lv_has ls 2 [(0, .ref x), (1, .int (nI 11))] := hl
      refine lv_iload_n hx hb dX7_count_114 rfl (lv_at hl 1 rfl) ?_
      refine lv_bipush (v := nI 7) hx hb dX7_count_115 (by decide) ?_
      refine lv_bipush (v := nI 11) hx hb dX7_count_117 (by decide) ?_
      refine z_rd (fun _ h => h) (va_runS (As := [.int (nI 11), .int (nI 7), .int (nI 11)]) (rest := []) hF (c_X7_in l E (nI 11) (nI 7) (nI 11) ) (va_cwS 3 hts gX7_count_X7_in rfl rfl rfl (by decide +kernel) ⟨Nat.le_of_ble_eq_true rfl, Nat.le_of_ble_eq_true rfl⟩) (z_preR (fun k q h => by simp at h) hG) rfl rfl hl.1 rfl (lv_room (Nat.le_of_ble_eq_true rfl)) dX7_count_119 ⟨Nat.zero_le _, Nat.zero_le _⟩) (fun r19 hr19 => ?_)
      rcases hr19 with ⟨rfl, c20⟩ | ⟨rfl, c20⟩
      · -- 119 t
        refine lv_if_eq (tgt := 136) hx hb dX7_count_122 (by decide) (fun c => absurd c (by decide)) (fun _ => ?_)
        refine lv_aload_n hx hb dX7_count_125 rfl (lv_at hl 0 rfl) ?_
        refine lv_iload_n hx hb dX7_count_126 rfl (lv_at hl 1 rfl) ?_
        refine lv_bipush (v := nI 7) hx hb dX7_count_127 (by decide) ?_
        refine z_isub (a := 11) (b := 7) hx hb dX7_count_129 (by omega) ?_
        have hPc := zP_sub (w := [(x, .inr (7, [.ref ms, .ref mp, .int (nI pz), .ref mt, .int (nI len), .ref md, .int (nI sp), .int q1, .int q2, .int q3, .int q4, .int q5, .int (nI fm)])), (ms, .inl (E.2.1, 265, .inl (fun zz => nI (M zz))))]) hP [0, 1] rfl
        refine z_rd (fun _ h => h) (va_runV (As := [.int (nI (11 - 7))]) (rest := []) hF (c_X7_setting l E x ms mp mt md pz len sp fm (11 - 7) q1 q2 q3 q4 q5 M (by first | assumption | omega)) (cwV 1 hts gX7_count_X7_setting rfl rfl rfl (by decide +kernel) ⟨Nat.le_of_ble_eq_true rfl, Nat.le_of_ble_eq_true rfl⟩) (z_preRV (va_recv hG.1 hP (ci := 7) (q0 := 0) rfl rfl) hPc hG) rfl rfl hl.1 rfl (lv_room (Nat.le_of_ble_eq_true rfl)) dX7_count_130 ⟨Nat.zero_le _, Nat.zero_le _⟩) (fun r21 hr21 => ?_)
        subst hr21
        refine lv_goto (tgt := 137) hx hb dX7_count_133 (by decide) ?_
        exact hret _ _ _ dX7_count_137 (Or.inr (⟨11, (nI (M (4 + (11 - 7)))), by first | rfl | (congr 1; omega), ⟨rfl, by omega, by unfold ctA; (repeat' split) <;> first | rfl | (exfalso; omega)⟩⟩))
      · -- 119 f
        exact absurd (by decide) c20
    · -- 1 case 12
      subst hk
      refine lv_tableIn (tgt := 104) (off := 103) hx hb dX7_count_1 (by decide) (by decide) (by decide) (by decide) ?_
      have hl : lv_has ls 2 [(0, .ref x), (1, .int (nI 12))] := hl
      refine lv_aload_n hx hb dX7_count_104 rfl (lv_at hl 0 rfl) ?_
      refine va_get (D := E.1) (ci := 7) (v := .int (nI pz)) (C := RX7) (T := TX7) (N := 13) hx hb hts iwX7_count_X7_c_X7_count hown hG.1 hP 0 rfl rfl 2 (by decide) (hts (.fieldLink RX7 34 "FrettedStringsModel" "pasts" "I") (by decide +kernel)) (fun _ h9 => h9) rfl dX7_count_105 ?_
      exact hret _ _ _ dX7_count_108 (Or.inr (⟨12, (nI pz), by first | rfl | (congr 1; omega), ⟨rfl, by omega, by unfold ctA; (repeat' split) <;> first | rfl | (exfalso; omega)⟩⟩))
    · -- 1 case 13
      subst hk
      refine lv_tableIn (tgt := 109) (off := 108) hx hb dX7_count_1 (by decide) (by decide) (by decide) (by decide) ?_
      have hl : lv_has ls 2 [(0, .ref x), (1, .int (nI 13))] := hl
      refine lv_aload_n hx hb dX7_count_109 rfl (lv_at hl 0 rfl) ?_
      refine va_get (D := E.1) (ci := 7) (v := .int (nI len)) (C := RX7) (T := TX7) (N := 13) hx hb hts iwX7_count_X7_c_X7_count hown hG.1 hP 0 rfl rfl 4 (by decide) (hts (.fieldLink RX7 178 "FrettedStringsModel" "length" "I") (by decide +kernel)) (fun _ h9 => h9) rfl dX7_count_110 ?_
      exact hret _ _ _ dX7_count_113 (Or.inr (⟨13, (nI len), by first | rfl | (congr 1; omega), ⟨rfl, by omega, by unfold ctA; (repeat' split) <;> first | rfl | (exfalso; omega)⟩⟩))
set_option maxHeartbeats 1000000 in
set_option maxRecDepth 100000 in
theorem c_X7_stringInfo (l : Launch) (E : zE) (x ms mp mt md pz len sp fm : Nat) (q1 q2 q3 q4 q5 a v : Int32) (M : Nat → Nat) (hn : M 0 ≤ 12) (hPb : ∀ i, i < 12 → mP M i ≤ 2400) (hHb : ∀ i, i < 12 → mH M i ≤ 2000) (hprn : ∀ i, i < 4 → mPr M i ≤ M 0) (ham : ∀ i, i < 48 → mAm M i ≤ 1000000) (hse4 : M 8 ≤ 100000) : zR l yX7_stringInfo wsX7_stringInfo ({ frames := 6, cells := 0, slots := 0, locals := 135 }) E [.ref x, .int a, .int v] [(x, .inr (7, [.ref ms, .ref mp, .int (nI pz), .ref mt, .int (nI len), .ref md, .int (nI sp), .int q1, .int q2, .int q3, .int q4, .int q5, .int (nI fm)])), (ms, .inl (E.2.1, 265, .inl (fun zz => nI (M zz))))] (fun r => (r = (-1) ∧ (¬ ((nI 0 ≤ a ∧ a ≤ nI 3) ∧ (nI 0 ≤ v ∧ v ≤ nI 8)))) ∨ (∃ (s : Nat) (w : Nat) (r9 : Int32), r = r9 ∧ (a = nI s ∧ v = nI w ∧ s < 4 ∧ w ≤ 8 ∧ r9 = siA M s w))) := by
  refine zR.start (own := RX7) rfl (by decide +kernel) rfl (Nat.le_of_ble_eq_true rfl) (fun _ _ => rfl) ?_
  intro pZ eZ sZ mZ argsZ belowZ methZ cZ QZ hF hret hP hG ls hl
  obtain ⟨hx, hb, hml, hown, hts⟩ := id hF
  have hl : lv_has ls 3 [(0, .ref x), (1, .int a), (2, .int v)] := hl
  refine lv_iload_n hx hb dX7_stringInfo_0 rfl (lv_at hl 1 rfl) ?_
  refine z_rd (fun _ h => h) (va_runS (As := [.int a]) (rest := []) hF (c_X7_isString l E a ) (va_cwS 1 hts gX7_stringInfo_X7_isString rfl rfl rfl (by decide +kernel) ⟨Nat.le_of_ble_eq_true rfl, Nat.le_of_ble_eq_true rfl⟩) (z_preR (fun k q h => by simp at h) hG) rfl rfl hl.1 rfl (lv_room (Nat.le_of_ble_eq_true rfl)) dX7_stringInfo_1 ⟨Nat.zero_le _, Nat.zero_le _⟩) (fun r1 hr1 => ?_)
  rcases hr1 with ⟨rfl, c2⟩ | ⟨rfl, c2⟩
  · -- 1 t
    have ka := c2
    refine lv_if_eq (tgt := 17) hx hb dX7_stringInfo_4 (by decide) (fun c => absurd c (by decide)) (fun _ => ?_)
    refine lv_iload_n hx hb dX7_stringInfo_7 rfl (lv_at hl 2 rfl) ?_
    refine lv_iconst (v := nI 0) hx hb dX7_stringInfo_8 (by decide) ?_
    refine lv_bipush (v := nI 8) hx hb dX7_stringInfo_9 (by decide) ?_
    refine z_rd (fun _ h => h) (va_runS (As := [.int v, .int (nI 0), .int (nI 8)]) (rest := []) hF (c_X7_in l E v (nI 0) (nI 8) ) (va_cwS 3 hts gX7_stringInfo_X7_in rfl rfl rfl (by decide +kernel) ⟨Nat.le_of_ble_eq_true rfl, Nat.le_of_ble_eq_true rfl⟩) (z_preR (fun k q h => by simp at h) hG) rfl rfl hl.1 rfl (lv_room (Nat.le_of_ble_eq_true rfl)) dX7_stringInfo_11 ⟨Nat.zero_le _, Nat.zero_le _⟩) (fun r3 hr3 => ?_)
    rcases hr3 with ⟨rfl, c4⟩ | ⟨rfl, c4⟩
    · -- 11 t
      obtain ⟨s, hs1, hs2, rfl⟩ := z_ge (by omega) (by omega) ka.1 ka.2
      have kv := c4
      refine lv_if_ne (tgt := 19) hx hb dX7_stringInfo_14 (by decide) (fun _ => ?_) (fun c => absurd c (by decide))
      refine lv_iload_n hx hb dX7_stringInfo_19 rfl (lv_at hl 2 rfl) ?_
      rcases z_tab v 7 (by decide) with c5 | ⟨kZ, c5, rfl⟩
      · -- 20 out
        refine lv_tableOut (tgt := 120) hx hb dX7_stringInfo_20 c5 (by decide) ?_
        refine lv_aload_n hx hb dX7_stringInfo_120 rfl (lv_at hl 0 rfl) ?_
        refine lv_iload_n hx hb dX7_stringInfo_121 rfl (lv_at hl 1 rfl) ?_
        refine lv_iconst (v := nI 3) hx hb dX7_stringInfo_122 (by decide) ?_
        have hPc := zP_sub (w := [(x, .inr (7, [.ref ms, .ref mp, .int (nI pz), .ref mt, .int (nI len), .ref md, .int (nI sp), .int q1, .int q2, .int q3, .int q4, .int q5, .int (nI fm)])), (ms, .inl (E.2.1, 265, .inl (fun zz => nI (M zz))))]) hP [0, 1] rfl
        refine z_rd (fun _ h => h) (va_runV (As := [.int (nI s), .int (nI 3)]) (rest := []) hF (c_X7_of l E x ms mp mt md pz len sp fm s 3 q1 q2 q3 q4 q5 M (by first | assumption | omega) (by first | assumption | omega)) (cwV 2 hts gX7_stringInfo_X7_of rfl rfl rfl (by decide +kernel) ⟨Nat.le_of_ble_eq_true rfl, Nat.le_of_ble_eq_true rfl⟩) (z_preRV (va_recv hG.1 hP (ci := 7) (q0 := 0) rfl rfl) hPc hG) rfl rfl hl.1 rfl (lv_room (Nat.le_of_ble_eq_true rfl)) dX7_stringInfo_123 ⟨Nat.zero_le _, Nat.zero_le _⟩) (fun r6 hr6 => ?_)
        subst hr6
        exact hret _ _ _ dX7_stringInfo_126 (Or.inr (⟨s, 8, (nI (M (45 + 4 * s + 3))), by first | rfl | (congr 1; omega), ⟨rfl, isL_8 c5 kv, by omega, by omega, by unfold siA; (repeat' split) <;> first | rfl | (exfalso; omega)⟩⟩))
      · -- 20 in
        obtain hk | hk | hk | hk | hk | hk | hk | hk : kZ = 0 ∨ kZ = 1 ∨ kZ = 2 ∨ kZ = 3 ∨ kZ = 4 ∨ kZ = 5 ∨ kZ = 6 ∨ kZ = 7 := by omega
        · -- 20 case 0
          subst hk
          refine lv_tableIn (tgt := 68) (off := 48) hx hb dX7_stringInfo_20 (by decide) (by decide) (by decide) (by decide) ?_
          have hl : lv_has ls 3 [(0, .ref x), (1, .int (nI s)), (2, .int (nI 0))] := hl
          refine lv_aload_n hx hb dX7_stringInfo_68 rfl (lv_at hl 0 rfl) ?_
          refine lv_iload_n hx hb dX7_stringInfo_69 rfl (lv_at hl 1 rfl) ?_
          refine lv_iload_n hx hb dX7_stringInfo_70 rfl (lv_at hl 2 rfl) ?_
          have hPc := zP_sub (w := [(x, .inr (7, [.ref ms, .ref mp, .int (nI pz), .ref mt, .int (nI len), .ref md, .int (nI sp), .int q1, .int q2, .int q3, .int q4, .int q5, .int (nI fm)])), (ms, .inl (E.2.1, 265, .inl (fun zz => nI (M zz))))]) hP [0, 1] rfl
          refine z_rd (fun _ h => h) (va_runV (As := [.int (nI s), .int (nI 0)]) (rest := []) hF (c_X7_of l E x ms mp mt md pz len sp fm s 0 q1 q2 q3 q4 q5 M (by first | assumption | omega) (by first | assumption | omega)) (cwV 2 hts gX7_stringInfo_X7_of rfl rfl rfl (by decide +kernel) ⟨Nat.le_of_ble_eq_true rfl, Nat.le_of_ble_eq_true rfl⟩) (z_preRV (va_recv hG.1 hP (ci := 7) (q0 := 0) rfl rfl) hPc hG) rfl rfl hl.1 rfl (lv_room (Nat.le_of_ble_eq_true rfl)) dX7_stringInfo_71 ⟨Nat.zero_le _, Nat.zero_le _⟩) (fun r7 hr7 => ?_)
          subst hr7
          exact hret _ _ _ dX7_stringInfo_74 (Or.inr (⟨s, 0, (nI (M (45 + 4 * s + 0))), by first | rfl | (congr 1; omega), ⟨rfl, rfl, by omega, by omega, by unfold siA; (repeat' split) <;> first | rfl | (exfalso; omega)⟩⟩))
        · -- 20 case 1
          subst hk
          refine lv_tableIn (tgt := 68) (off := 48) hx hb dX7_stringInfo_20 (by decide) (by decide) (by decide) (by decide) ?_
          have hl : lv_has ls 3 [(0, .ref x), (1, .int (nI s)), (2, .int (nI 1))] := hl
          refine lv_aload_n hx hb dX7_stringInfo_68 rfl (lv_at hl 0 rfl) ?_
          refine lv_iload_n hx hb dX7_stringInfo_69 rfl (lv_at hl 1 rfl) ?_
          refine lv_iload_n hx hb dX7_stringInfo_70 rfl (lv_at hl 2 rfl) ?_
          have hPc := zP_sub (w := [(x, .inr (7, [.ref ms, .ref mp, .int (nI pz), .ref mt, .int (nI len), .ref md, .int (nI sp), .int q1, .int q2, .int q3, .int q4, .int q5, .int (nI fm)])), (ms, .inl (E.2.1, 265, .inl (fun zz => nI (M zz))))]) hP [0, 1] rfl
          refine z_rd (fun _ h => h) (va_runV (As := [.int (nI s), .int (nI 1)]) (rest := []) hF (c_X7_of l E x ms mp mt md pz len sp fm s 1 q1 q2 q3 q4 q5 M (by first | assumption | omega) (by first | assumption | omega)) (cwV 2 hts gX7_stringInfo_X7_of rfl rfl rfl (by decide +kernel) ⟨Nat.le_of_ble_eq_true rfl, Nat.le_of_ble_eq_true rfl⟩) (z_preRV (va_recv hG.1 hP (ci := 7) (q0 := 0) rfl rfl) hPc hG) rfl rfl hl.1 rfl (lv_room (Nat.le_of_ble_eq_true rfl)) dX7_stringInfo_71 ⟨Nat.zero_le _, Nat.zero_le _⟩) (fun r8 hr8 => ?_)
          subst hr8
          exact hret _ _ _ dX7_stringInfo_74 (Or.inr (⟨s, 1, (nI (M (45 + 4 * s + 1))), by first | rfl | (congr 1; omega), ⟨rfl, rfl, by omega, by omega, by unfold siA; (repeat' split) <;> first | rfl | (exfalso; omega)⟩⟩))
        · -- 20 case 2
          subst hk
          refine lv_tableIn (tgt := 75) (off := 55) hx hb dX7_stringInfo_20 (by decide) (by decide) (by decide) (by decide) ?_
          have hl : lv_has ls 3 [(0, .ref x), (1, .int (nI s)), (2, .int (nI 2))] := hl
          refine lv_aload_n hx hb dX7_stringInfo_75 rfl (lv_at hl 0 rfl) ?_
          refine lv_iload_n hx hb dX7_stringInfo_76 rfl (lv_at hl 1 rfl) ?_
          have hPc := zP_sub (w := [(x, .inr (7, [.ref ms, .ref mp, .int (nI pz), .ref mt, .int (nI len), .ref md, .int (nI sp), .int q1, .int q2, .int q3, .int q4, .int q5, .int (nI fm)])), (ms, .inl (E.2.1, 265, .inl (fun zz => nI (M zz))))]) hP [0, 1] rfl
          refine z_rd (fun _ h => h) (va_runV (As := [.int (nI s)]) (rest := []) hF (c_X7_sounds l E x ms mp mt md pz len sp fm s q1 q2 q3 q4 q5 M (by first | assumption | omega) (by first | assumption | omega) (by first | assumption | omega) (by first | assumption | omega) (by first | assumption | omega)) (cwV 1 hts gX7_stringInfo_X7_sounds rfl rfl rfl (by decide +kernel) ⟨Nat.le_of_ble_eq_true rfl, Nat.le_of_ble_eq_true rfl⟩) (z_preRV (va_recv hG.1 hP (ci := 7) (q0 := 0) rfl rfl) hPc hG) rfl rfl hl.1 rfl (lv_room (Nat.le_of_ble_eq_true rfl)) dX7_stringInfo_77 ⟨Nat.zero_le _, Nat.zero_le _⟩) (fun r9 hr9 => ?_)
          subst hr9
          exact hret _ _ _ dX7_stringInfo_80 (Or.inr (⟨s, 2, (nI (mSo M s)), by first | rfl | (congr 1; omega), ⟨rfl, rfl, by omega, by omega, by unfold siA; (repeat' split) <;> first | rfl | (exfalso; omega)⟩⟩))
        · -- 20 case 3
          subst hk
          refine lv_tableIn (tgt := 81) (off := 61) hx hb dX7_stringInfo_20 (by decide) (by decide) (by decide) (by decide) ?_
          have hl : lv_has ls 3 [(0, .ref x), (1, .int (nI s)), (2, .int (nI 3))] := hl
          refine lv_aload_n hx hb dX7_stringInfo_81 rfl (lv_at hl 0 rfl) ?_
          refine lv_iload_n hx hb dX7_stringInfo_82 rfl (lv_at hl 1 rfl) ?_
          have hPc := zP_sub (w := [(x, .inr (7, [.ref ms, .ref mp, .int (nI pz), .ref mt, .int (nI len), .ref md, .int (nI sp), .int q1, .int q2, .int q3, .int q4, .int q5, .int (nI fm)])), (ms, .inl (E.2.1, 265, .inl (fun zz => nI (M zz))))]) hP [0, 1] rfl
          refine z_rd (fun _ h => h) (va_runV (As := [.int (nI s)]) (rest := []) hF (c_X7_buzzes l E x ms mp mt md pz len sp fm s q1 q2 q3 q4 q5 M (by first | assumption | omega) (by first | assumption | omega) (by first | assumption | omega) (by first | assumption | omega) (by first | assumption | omega)) (cwV 1 hts gX7_stringInfo_X7_buzzes rfl rfl rfl (by decide +kernel) ⟨Nat.le_of_ble_eq_true rfl, Nat.le_of_ble_eq_true rfl⟩) (z_preRV (va_recv hG.1 hP (ci := 7) (q0 := 0) rfl rfl) hPc hG) rfl rfl hl.1 rfl (lv_room (Nat.le_of_ble_eq_true rfl)) dX7_stringInfo_83 ⟨Nat.zero_le _, Nat.zero_le _⟩) (fun r10 hr10 => ?_)
          rcases hr10 with ⟨rfl, c11⟩ | ⟨rfl, c11⟩
          · -- 83 t
            refine lv_if_eq (tgt := 93) hx hb dX7_stringInfo_86 (by decide) (fun c => absurd c (by decide)) (fun _ => ?_)
            refine lv_iconst (v := nI 1) hx hb dX7_stringInfo_89 (by decide) ?_
            refine lv_goto (tgt := 94) hx hb dX7_stringInfo_90 (by decide) ?_
            exact hret _ _ _ dX7_stringInfo_94 (Or.inr (⟨s, 3, (nI 1), by first | rfl | (congr 1; omega), ⟨rfl, rfl, by omega, by omega, by unfold siA; (repeat' split) <;> first | rfl | (exfalso; omega)⟩⟩))
          · -- 83 f
            refine lv_if_eq (tgt := 93) hx hb dX7_stringInfo_86 (by decide) (fun _ => ?_) (fun c => absurd c (by decide))
            refine lv_iconst (v := nI 0) hx hb dX7_stringInfo_93 (by decide) ?_
            exact hret _ _ _ dX7_stringInfo_94 (Or.inr (⟨s, 3, (nI 0), by first | rfl | (congr 1; omega), ⟨rfl, rfl, by omega, by omega, by unfold siA; (repeat' split) <;> first | rfl | (exfalso; omega)⟩⟩))
        · -- 20 case 4
          subst hk
          refine lv_tableIn (tgt := 95) (off := 75) hx hb dX7_stringInfo_20 (by decide) (by decide) (by decide) (by decide) ?_
          have hl : lv_has ls 3 [(0, .ref x), (1, .int (nI s)), (2, .int (nI 4))] := hl
          refine lv_aload_n hx hb dX7_stringInfo_95 rfl (lv_at hl 0 rfl) ?_
          refine lv_iload_n hx hb dX7_stringInfo_96 rfl (lv_at hl 1 rfl) ?_
          have hPc := zP_sub (w := [(x, .inr (7, [.ref ms, .ref mp, .int (nI pz), .ref mt, .int (nI len), .ref md, .int (nI sp), .int q1, .int q2, .int q3, .int q4, .int q5, .int (nI fm)])), (ms, .inl (E.2.1, 265, .inl (fun zz => nI (M zz))))]) hP [0, 1] rfl
          refine z_rd (fun _ h => h) (va_runV (As := [.int (nI s)]) (rest := []) hF (c_X7_lengthOf l E x ms mp mt md pz len sp fm s q1 q2 q3 q4 q5 M (by first | assumption | omega) (by first | assumption | omega) (by first | assumption | omega) (by first | assumption | omega) (by first | assumption | omega)) (cwV 1 hts gX7_stringInfo_X7_lengthOf rfl rfl rfl (by decide +kernel) ⟨Nat.le_of_ble_eq_true rfl, Nat.le_of_ble_eq_true rfl⟩) (z_preRV (va_recv hG.1 hP (ci := 7) (q0 := 0) rfl rfl) hPc hG) rfl rfl hl.1 rfl (lv_room (Nat.le_of_ble_eq_true rfl)) dX7_stringInfo_97 ⟨Nat.zero_le _, Nat.zero_le _⟩) (fun r12 hr12 => ?_)
          subst hr12
          exact hret _ _ _ dX7_stringInfo_100 (Or.inr (⟨s, 4, (nI (2520 - mSt M s)), by first | rfl | (congr 1; omega), ⟨rfl, rfl, by omega, by omega, by unfold siA; (repeat' split) <;> first | rfl | (exfalso; omega)⟩⟩))
        · -- 20 case 5
          subst hk
          refine lv_tableIn (tgt := 101) (off := 81) hx hb dX7_stringInfo_20 (by decide) (by decide) (by decide) (by decide) ?_
          have hl : lv_has ls 3 [(0, .ref x), (1, .int (nI s)), (2, .int (nI 5))] := hl
          refine lv_aload_n hx hb dX7_stringInfo_101 rfl (lv_at hl 0 rfl) ?_
          refine lv_iload_n hx hb dX7_stringInfo_102 rfl (lv_at hl 1 rfl) ?_
          refine lv_iconst (v := nI 2) hx hb dX7_stringInfo_103 (by decide) ?_
          have hPc := zP_sub (w := [(x, .inr (7, [.ref ms, .ref mp, .int (nI pz), .ref mt, .int (nI len), .ref md, .int (nI sp), .int q1, .int q2, .int q3, .int q4, .int q5, .int (nI fm)])), (ms, .inl (E.2.1, 265, .inl (fun zz => nI (M zz))))]) hP [0, 1] rfl
          refine z_rd (fun _ h => h) (va_runV (As := [.int (nI s), .int (nI 2)]) (rest := []) hF (c_X7_of l E x ms mp mt md pz len sp fm s 2 q1 q2 q3 q4 q5 M (by first | assumption | omega) (by first | assumption | omega)) (cwV 2 hts gX7_stringInfo_X7_of rfl rfl rfl (by decide +kernel) ⟨Nat.le_of_ble_eq_true rfl, Nat.le_of_ble_eq_true rfl⟩) (z_preRV (va_recv hG.1 hP (ci := 7) (q0 := 0) rfl rfl) hPc hG) rfl rfl hl.1 rfl (lv_room (Nat.le_of_ble_eq_true rfl)) dX7_stringInfo_104 ⟨Nat.zero_le _, Nat.zero_le _⟩) (fun r13 hr13 => ?_)
          subst hr13
          exact hret _ _ _ dX7_stringInfo_107 (Or.inr (⟨s, 5, (nI (M (45 + 4 * s + 2))), by first | rfl | (congr 1; omega), ⟨rfl, rfl, by omega, by omega, by unfold siA; (repeat' split) <;> first | rfl | (exfalso; omega)⟩⟩))
        · -- 20 case 6
          subst hk
          refine lv_tableIn (tgt := 108) (off := 88) hx hb dX7_stringInfo_20 (by decide) (by decide) (by decide) (by decide) ?_
          have hl : lv_has ls 3 [(0, .ref x), (1, .int (nI s)), (2, .int (nI 6))] := hl
          refine lv_aload_n hx hb dX7_stringInfo_108 rfl (lv_at hl 0 rfl) ?_
          refine lv_iload_n hx hb dX7_stringInfo_109 rfl (lv_at hl 1 rfl) ?_
          have hPc := zP_sub (w := [(x, .inr (7, [.ref ms, .ref mp, .int (nI pz), .ref mt, .int (nI len), .ref md, .int (nI sp), .int q1, .int q2, .int q3, .int q4, .int q5, .int (nI fm)])), (ms, .inl (E.2.1, 265, .inl (fun zz => nI (M zz))))]) hP [0, 1] rfl
          refine z_rd (fun _ h => h) (va_runV (As := [.int (nI s)]) (rest := []) hF (c_X7_heardOf l E x ms mp mt md pz len sp fm s q1 q2 q3 q4 q5 M (by first | assumption | omega) (by first | assumption | omega) (by first | assumption | omega)) (cwV 1 hts gX7_stringInfo_X7_heardOf rfl rfl rfl (by decide +kernel) ⟨Nat.le_of_ble_eq_true rfl, Nat.le_of_ble_eq_true rfl⟩) (z_preRV (va_recv hG.1 hP (ci := 7) (q0 := 0) rfl rfl) hPc hG) rfl rfl hl.1 rfl (lv_room (Nat.le_of_ble_eq_true rfl)) dX7_stringInfo_110 ⟨Nat.zero_le _, Nat.zero_le _⟩) (fun r14 hr14 => ?_)
          subst hr14
          exact hret _ _ _ dX7_stringInfo_113 (Or.inr (⟨s, 6, (nI (mhL (mAm M) (M 8) s 12)), by first | rfl | (congr 1; omega), ⟨rfl, rfl, by omega, by omega, by unfold siA; (repeat' split) <;> first | rfl | (exfalso; omega)⟩⟩))
        · -- 20 case 7
          subst hk
          refine lv_tableIn (tgt := 114) (off := 94) hx hb dX7_stringInfo_20 (by decide) (by decide) (by decide) (by decide) ?_
          have hl : lv_has ls 3 [(0, .ref x), (1, .int (nI s)), (2, .int (nI 7))] := hl
          refine lv_aload_n hx hb dX7_stringInfo_114 rfl (lv_at hl 0 rfl) ?_
          refine lv_iload_n hx hb dX7_stringInfo_115 rfl (lv_at hl 1 rfl) ?_
          have hPc := zP_sub (w := [(x, .inr (7, [.ref ms, .ref mp, .int (nI pz), .ref mt, .int (nI len), .ref md, .int (nI sp), .int q1, .int q2, .int q3, .int q4, .int q5, .int (nI fm)])), (ms, .inl (E.2.1, 265, .inl (fun zz => nI (M zz))))]) hP [0, 1] rfl
          refine z_rd (fun _ h => h) (va_runV (As := [.int (nI s)]) (rest := []) hF (c_X7_sumOf l E x ms mp mt md pz len sp fm s q1 q2 q3 q4 q5 M (by first | assumption | omega)) (cwV 1 hts gX7_stringInfo_X7_sumOf rfl rfl rfl (by decide +kernel) ⟨Nat.le_of_ble_eq_true rfl, Nat.le_of_ble_eq_true rfl⟩) (z_preRV (va_recv hG.1 hP (ci := 7) (q0 := 0) rfl rfl) hPc hG) rfl rfl hl.1 rfl (lv_room (Nat.le_of_ble_eq_true rfl)) dX7_stringInfo_116 ⟨Nat.zero_le _, Nat.zero_le _⟩) (fun r15 hr15 => ?_)
          subst hr15
          exact hret _ _ _ dX7_stringInfo_119 (Or.inr (⟨s, 7, (nI (sumA (mAm M) s 12)), by first | rfl | (congr 1; omega), ⟨rfl, rfl, by omega, by omega, by unfold siA; (repeat' split) <;> first | rfl | (exfalso; omega)⟩⟩))
    · -- 11 f
      refine lv_if_ne (tgt := 19) hx hb dX7_stringInfo_14 (by decide) (fun c => absurd c (by decide)) (fun _ => ?_)
      refine lv_iconst (v := (-1)) hx hb dX7_stringInfo_17 (by decide) ?_
      exact hret _ _ _ dX7_stringInfo_18 (Or.inl ⟨rfl, by intro q; first | exact absurd q (by assumption) | exact absurd q.1 (by assumption) | exact absurd q.2 (by assumption) | exact absurd q.2.1 (by assumption) | exact absurd q.2.2 (by assumption)⟩)
  · -- 1 f
    refine lv_if_eq (tgt := 17) hx hb dX7_stringInfo_4 (by decide) (fun _ => ?_) (fun c => absurd c (by decide))
    refine lv_iconst (v := (-1)) hx hb dX7_stringInfo_17 (by decide) ?_
    exact hret _ _ _ dX7_stringInfo_18 (Or.inl ⟨rfl, by intro q; first | exact absurd q (by assumption) | exact absurd q.1 (by assumption) | exact absurd q.2 (by assumption) | exact absurd q.2.1 (by assumption) | exact absurd q.2.2 (by assumption)⟩)
set_option maxHeartbeats 1000000 in
set_option maxRecDepth 100000 in
theorem c_X7_mostFor (l : Launch) (E : zE) (x ms mp mt md pz len sp fm : Nat) (q1 q2 q3 q4 q5 a : Int32) (M : Nat → Nat) (hn : M 0 ≤ 12) (hPb : ∀ i, i < 12 → mP M i ≤ 2400) (hHb : ∀ i, i < 12 → mH M i ≤ 2000) : zR l yX7_mostFor wsX7_mostFor ({ frames := 2, cells := 0, slots := 0, locals := 46 }) E [.ref x, .int a] [(x, .inr (7, [.ref ms, .ref mp, .int (nI pz), .ref mt, .int (nI len), .ref md, .int (nI sp), .int q1, .int q2, .int q3, .int q4, .int q5, .int (nI fm)])), (ms, .inl (E.2.1, 265, .inl (fun zz => nI (M zz))))] (fun r => (r = (-1) ∧ (¬ (nI 1 ≤ a ∧ a ≤ nI (M 0)))) ∨ (∃ (f : Nat) (r9 : Int32), r = r9 ∧ (a = nI f ∧ 1 ≤ f ∧ f ≤ M 0 ∧ r9 = if nI 0 ≤ moL M (M (9 + 3 * (f - 1) + 0)) (f - 1) then moL M (M (9 + 3 * (f - 1) + 0)) (f - 1) else -4))) := by
  refine zR.start (own := RX7) rfl (by decide +kernel) rfl (Nat.le_of_ble_eq_true rfl) (fun _ _ => rfl) ?_
  intro pZ eZ sZ mZ argsZ belowZ methZ cZ QZ hF hret hP hG ls hl
  obtain ⟨hx, hb, hml, hown, hts⟩ := id hF
  have hl : lv_has ls 5 [(0, .ref x), (1, .int a)] := hl
  refine lv_aload_n hx hb dX7_mostFor_0 rfl (lv_at hl 0 rfl) ?_
  refine lv_iload_n hx hb dX7_mostFor_1 rfl (lv_at hl 1 rfl) ?_
  have hPc := zP_sub (w := [(x, .inr (7, [.ref ms, .ref mp, .int (nI pz), .ref mt, .int (nI len), .ref md, .int (nI sp), .int q1, .int q2, .int q3, .int q4, .int q5, .int (nI fm)])), (ms, .inl (E.2.1, 265, .inl (fun zz => nI (M zz))))]) hP [0, 1] rfl
  refine z_rd (fun _ h => h) (va_runV (As := [.int a]) (rest := []) hF (c_X7_isFret l E x ms mp mt md pz len sp fm q1 q2 q3 q4 q5 a M ) (cwV 1 hts gX7_mostFor_X7_isFret rfl rfl rfl (by decide +kernel) ⟨Nat.le_of_ble_eq_true rfl, Nat.le_of_ble_eq_true rfl⟩) (z_preRV (va_recv hG.1 hP (ci := 7) (q0 := 0) rfl rfl) hPc hG) rfl rfl hl.1 rfl (lv_room (Nat.le_of_ble_eq_true rfl)) dX7_mostFor_2 ⟨Nat.zero_le _, Nat.zero_le _⟩) (fun r1 hr1 => ?_)
  rcases hr1 with ⟨rfl, c2⟩ | ⟨rfl, c2⟩
  · -- 2 t
    obtain ⟨f, hf1, hf2, rfl⟩ := z_ge (by omega) (by omega) c2.1 c2.2
    have hyb := hPb (f - 1) (by omega)
    unfold mP at hyb
    refine lv_if_ne (tgt := 10) hx hb dX7_mostFor_5 (by decide) (fun _ => ?_) (fun c => absurd c (by decide))
    refine lv_sipush (v := nI 2000) hx hb dX7_mostFor_10 (by decide) ?_
    refine lv_istore_n (lv' := [(2, .int (nI 2000)), (0, .ref x), (1, .int (nI f))]) hx hb dX7_mostFor_13 rfl hl (by decide) rfl (fun ls hl => ?_)
    refine lv_iconst (v := nI 1) hx hb dX7_mostFor_14 (by decide) ?_
    refine lv_istore_n (lv' := [(3, .int (nI 1)), (2, .int (nI 2000)), (0, .ref x), (1, .int (nI f))]) hx hb dX7_mostFor_15 rfl hl (by decide) rfl (fun ls hl => ?_)
    have L16_3 : ∀ (fuelZ : Nat) (g : Nat), f - g < fuelZ → (1 ≤ g) → (g ≤ f) → ∀ ls : Array Slot, lv_has ls 5 [(3, .int (nI g)), (2, .int (moL M (M (9 + 3 * (f - 1) + 0)) (g - 1))), (0, .ref x), (1, .int (nI f))] → W pZ l eZ ({ frames := 2, cells := 0, slots := 0, locals := 46 }) sZ mZ argsZ belowZ methZ cZ sZ.heap [] 0 0 QZ (F0 mZ 16 ls []) := by
      intro fuelZ
      induction fuelZ with
      | zero => intro g hm; exact absurd hm (Nat.not_lt_zero _)
      | succ fuelZ ih16 =>
        intro g hm i0 i1 ls hl
        refine lv_iload_n hx hb dX7_mostFor_16 rfl (lv_at hl 0 rfl) ?_
        refine lv_iload_n hx hb dX7_mostFor_17 rfl (lv_at hl 3 rfl) ?_
        refine z_icmp_ge (a := g) (b := f) (tgt := 53) hx hb dX7_mostFor_18 (by decide) (by omega) (by omega) (fun c4 => ?_) (fun c4 => ?_)
        · -- 18 t
          have hX : moL M (M (9 + 3 * (f - 1) + 0)) (g - 1) = moL M (M (9 + 3 * (f - 1) + 0)) (f - 1) := by rw [show g = f by omega]
          refine lv_iload_n hx hb dX7_mostFor_53 rfl (lv_at hl 1 rfl) ?_
          refine lv_if_ge (tgt := 62) hx hb dX7_mostFor_54 (by decide) (fun c5 => ?_) (fun c5 => ?_)
          · -- 54 t
            refine lv_iload_n hx hb dX7_mostFor_62 rfl (lv_at hl 1 rfl) ?_
            exact hret _ _ _ dX7_mostFor_63 (Or.inr (⟨f, (moL M (M (9 + 3 * (f - 1) + 0)) (g - 1)), by first | rfl | (congr 1; omega), ⟨rfl, by omega, by omega, by rw [← hX]; first | exact (if_pos (by assumption)).symm | exact (if_neg (by assumption)).symm⟩⟩))
          · -- 54 f
            refine lv_bipush (v := (-4)) hx hb dX7_mostFor_57 (by decide) ?_
            refine lv_goto (tgt := 63) hx hb dX7_mostFor_59 (by decide) ?_
            exact hret _ _ _ dX7_mostFor_63 (Or.inr (⟨f, (-4), rfl, ⟨rfl, by omega, by omega, by rw [← hX]; first | exact (if_pos (by assumption)).symm | exact (if_neg (by assumption)).symm⟩⟩))
        · -- 18 f
          refine lv_aload_n hx hb dX7_mostFor_21 rfl (lv_at hl 2 rfl) ?_
          refine lv_iload_n hx hb dX7_mostFor_22 rfl (lv_at hl 0 rfl) ?_
          refine lv_aload_n hx hb dX7_mostFor_23 rfl (lv_at hl 2 rfl) ?_
          refine lv_iload_n hx hb dX7_mostFor_24 rfl (lv_at hl 3 rfl) ?_
          refine lv_iconst (v := nI 0) hx hb dX7_mostFor_25 (by decide) ?_
          have hPc := zP_sub (w := [(x, .inr (7, [.ref ms, .ref mp, .int (nI pz), .ref mt, .int (nI len), .ref md, .int (nI sp), .int q1, .int q2, .int q3, .int q4, .int q5, .int (nI fm)])), (ms, .inl (E.2.1, 265, .inl (fun zz => nI (M zz))))]) hP [0, 1] rfl
          refine z_rd (fun _ h => h) (va_runV (As := [.int (nI f), .int (nI 0)]) (rest := [.int (nI g), .ref x]) hF (c_X7_on l E x ms mp mt md pz len sp fm f 0 q1 q2 q3 q4 q5 M (by first | assumption | omega) (by first | assumption | omega) (by first | assumption | omega)) (cwV 2 hts gX7_mostFor_X7_on rfl rfl rfl (by decide +kernel) ⟨Nat.le_of_ble_eq_true rfl, Nat.le_of_ble_eq_true rfl⟩) (z_preRV (va_recv hG.1 hP (ci := 7) (q0 := 0) rfl rfl) hPc hG) rfl rfl hl.1 rfl (lv_room (Nat.le_of_ble_eq_true rfl)) dX7_mostFor_26 ⟨Nat.zero_le _, Nat.zero_le _⟩) (fun r6 hr6 => ?_)
          subst hr6
          have hPc := zP_sub (w := [(x, .inr (7, [.ref ms, .ref mp, .int (nI pz), .ref mt, .int (nI len), .ref md, .int (nI sp), .int q1, .int q2, .int q3, .int q4, .int q5, .int (nI fm)])), (ms, .inl (E.2.1, 265, .inl (fun zz => nI (M zz))))]) hP [0, 1] rfl
          refine z_rd (fun _ h => h) (va_runV (As := [.int (nI g), .int (nI (M (9 + 3 * (f - 1) + 0)))]) (rest := []) hF (c_X7_lineOf l E x ms mp mt md pz len sp fm g (M (9 + 3 * (f - 1) + 0)) q1 q2 q3 q4 q5 M (by first | assumption | omega) (by first | assumption | omega) (by first | assumption | omega) (by first | assumption | omega) (by first | assumption | omega)) (cwV 2 hts gX7_mostFor_X7_lineOf rfl rfl rfl (by decide +kernel) ⟨Nat.le_of_ble_eq_true rfl, Nat.le_of_ble_eq_true rfl⟩) (z_preRV (va_recv hG.1 hP (ci := 7) (q0 := 0) rfl rfl) hPc hG) rfl rfl hl.1 rfl (lv_room (Nat.le_of_ble_eq_true rfl)) dX7_mostFor_29 ⟨Nat.zero_le _, Nat.zero_le _⟩) (fun r7 hr7 => ?_)
          subst hr7
          refine lv_istore (lv' := [(4, .int (Int32.ofInt (lineZ (mH M (g - 1)) (mP M (g - 1)) (M (9 + 3 * (f - 1) + 0))))), (3, .int (nI g)), (2, .int (moL M (M (9 + 3 * (f - 1) + 0)) (g - 1))), (0, .ref x), (1, .int (nI f))]) hx hb dX7_mostFor_32 hl (by decide) rfl (fun ls hl => ?_)
          refine lv_iload hx hb dX7_mostFor_34 (lv_at hl 0 rfl) ?_
          refine lv_iload_n hx hb dX7_mostFor_36 rfl (lv_at hl 2 rfl) ?_
          refine lv_icmp_ge (tgt := 45) hx hb dX7_mostFor_37 (by decide) (fun c8 => ?_) (fun c8 => ?_)
          · -- 37 t
            refine lv_iload_n hx hb dX7_mostFor_45 rfl (lv_at hl 2 rfl) ?_
            refine lv_istore_n (lv' := [(2, .int (moL M (M (9 + 3 * (f - 1) + 0)) (g - 1))), (4, .int (Int32.ofInt (lineZ (mH M (g - 1)) (mP M (g - 1)) (M (9 + 3 * (f - 1) + 0))))), (3, .int (nI g)), (0, .ref x), (1, .int (nI f))]) hx hb dX7_mostFor_46 rfl hl (by decide) rfl (fun ls hl => ?_)
            refine z_iinc (k := 2) (d := 1) (lv' := [(3, .int (nI (g + 1))), (2, .int (moL M (M (9 + 3 * (f - 1) + 0)) (g - 1))), (4, .int (Int32.ofInt (lineZ (mH M (g - 1)) (mP M (g - 1)) (M (9 + 3 * (f - 1) + 0))))), (0, .ref x), (1, .int (nI f))]) hx hb dX7_mostFor_47 (by decide) hl rfl (by decide) rfl (fun ls hl => ?_)
            refine lv_goto (tgt := 16) hx hb dX7_mostFor_50 (by decide) ?_
            have e9 : moL M (M (9 + 3 * (f - 1) + 0)) (g - 1) = moL M (M (9 + 3 * (f - 1) + 0)) ((g + 1) - 1) := by first | exact mo_t i0 (by assumption) | exact mo_f i0 (by assumption)
            have hl : lv_has ls 5 [(3, .int (nI (g + 1))), (2, .int (moL M (M (9 + 3 * (f - 1) + 0)) ((g + 1) - 1))), (4, .int (Int32.ofInt (lineZ (mH M (g - 1)) (mP M (g - 1)) (M (9 + 3 * (f - 1) + 0))))), (0, .ref x), (1, .int (nI f))] := Eq.subst (motive := fun XX : Int32 => lv_has ls 5 [(3, .int (nI (g + 1))), (2, .int XX), (4, .int (Int32.ofInt (lineZ (mH M (g - 1)) (mP M (g - 1)) (M (9 + 3 * (f - 1) + 0))))), (0, .ref x), (1, .int (nI f))]) e9 hl
            exact ih16 (g + 1) (by omega) (by omega) (by omega) _ (lv_sub hl [0, 1, 3, 4] rfl)
          · -- 37 f
            refine lv_iload hx hb dX7_mostFor_40 (lv_at hl 0 rfl) ?_
            refine lv_goto (tgt := 46) hx hb dX7_mostFor_42 (by decide) ?_
            refine lv_istore_n (lv' := [(2, .int (Int32.ofInt (lineZ (mH M (g - 1)) (mP M (g - 1)) (M (9 + 3 * (f - 1) + 0))))), (4, .int (Int32.ofInt (lineZ (mH M (g - 1)) (mP M (g - 1)) (M (9 + 3 * (f - 1) + 0))))), (3, .int (nI g)), (0, .ref x), (1, .int (nI f))]) hx hb dX7_mostFor_46 rfl hl (by decide) rfl (fun ls hl => ?_)
            refine z_iinc (k := 2) (d := 1) (lv' := [(3, .int (nI (g + 1))), (2, .int (Int32.ofInt (lineZ (mH M (g - 1)) (mP M (g - 1)) (M (9 + 3 * (f - 1) + 0))))), (4, .int (Int32.ofInt (lineZ (mH M (g - 1)) (mP M (g - 1)) (M (9 + 3 * (f - 1) + 0))))), (0, .ref x), (1, .int (nI f))]) hx hb dX7_mostFor_47 (by decide) hl rfl (by decide) rfl (fun ls hl => ?_)
            refine lv_goto (tgt := 16) hx hb dX7_mostFor_50 (by decide) ?_
            have e10 : Int32.ofInt (lineZ (mH M (g - 1)) (mP M (g - 1)) (M (9 + 3 * (f - 1) + 0))) = moL M (M (9 + 3 * (f - 1) + 0)) ((g + 1) - 1) := by first | exact mo_t i0 (by assumption) | exact mo_f i0 (by assumption)
            have hl : lv_has ls 5 [(3, .int (nI (g + 1))), (2, .int (moL M (M (9 + 3 * (f - 1) + 0)) ((g + 1) - 1))), (4, .int (Int32.ofInt (lineZ (mH M (g - 1)) (mP M (g - 1)) (M (9 + 3 * (f - 1) + 0))))), (0, .ref x), (1, .int (nI f))] := Eq.subst (motive := fun XX : Int32 => lv_has ls 5 [(3, .int (nI (g + 1))), (2, .int XX), (4, .int (Int32.ofInt (lineZ (mH M (g - 1)) (mP M (g - 1)) (M (9 + 3 * (f - 1) + 0))))), (0, .ref x), (1, .int (nI f))]) e10 hl
            exact ih16 (g + 1) (by omega) (by omega) (by omega) _ (lv_sub hl [0, 1, 3, 4] rfl)
    have e11 : nI 2000 = moL M (M (9 + 3 * (f - 1) + 0)) (1 - 1) := by rfl
    have hl : lv_has ls 5 [(3, .int (nI 1)), (2, .int (moL M (M (9 + 3 * (f - 1) + 0)) (1 - 1))), (0, .ref x), (1, .int (nI f))] := Eq.subst (motive := fun XX : Int32 => lv_has ls 5 [(3, .int (nI 1)), (2, .int XX), (0, .ref x), (1, .int (nI f))]) e11 hl
    exact L16_3 ((f - 1) + 1) 1 (Nat.lt_succ_self _) (by omega) (by omega) _ (lv_sub hl [0, 1, 2, 3] rfl)
  · -- 2 f
    refine lv_if_ne (tgt := 10) hx hb dX7_mostFor_5 (by decide) (fun c => absurd c (by decide)) (fun _ => ?_)
    refine lv_iconst (v := (-1)) hx hb dX7_mostFor_8 (by decide) ?_
    exact hret _ _ _ dX7_mostFor_9 (Or.inl ⟨rfl, by assumption⟩)
theorem iwX7_fret_X7_c_X7_fret : ∀ w ∈ wsX70, w ∈ wsX7_fret := by decide +kernel
set_option maxHeartbeats 1000000 in
set_option maxRecDepth 100000 in
theorem c_X7_fret (l : Launch) (E : zE) (x ms mp mt md pz len sp fm : Nat) (q1 q2 q3 q4 q5 a v : Int32) (M Pa Sd : Nat → Nat) (hn : M 0 ≤ 12) (hPb : ∀ i, i < 12 → mP M i ≤ 2400) (hHb : ∀ i, i < 12 → mH M i ≤ 2000) (hprn : ∀ i, i < 4 → mPr M i ≤ M 0) (hpz : pz ≤ 4) : zM l yX7_fret wsX7_fret ({ frames := 6, cells := 0, slots := 0, locals := 135 }) E [.ref x, .int a, .int v] [(x, .inr (7, [.ref ms, .ref mp, .int (nI pz), .ref mt, .int (nI len), .ref md, .int (nI sp), .int q1, .int q2, .int q3, .int q4, .int q5, .int (nI fm)])), (ms, .inl (E.2.1, 265, .inl (fun zz => nI (M zz)))), (mp, .inl (E.2.1, 1060, .inl (fun zz => nI (Pa zz)))), (md, .inl (E.2.1, 4, .inl (fun zz => nI (Sd zz))))] (fun r w' => (r = (-1) ∧ (¬ ((nI 1 ≤ a ∧ a ≤ nI 2400) ∧ (nI 0 ≤ v ∧ v ≤ nI 2000))) ∧ w' = [(x, .inr (7, [.ref ms, .ref mp, .int (nI pz), .ref mt, .int (nI len), .ref md, .int (nI sp), .int q1, .int q2, .int q3, .int q4, .int q5, .int (nI fm)])), (ms, .inl (E.2.1, 265, .inl (fun zz => nI (M zz)))), (mp, .inl (E.2.1, 1060, .inl (fun zz => nI (Pa zz)))), (md, .inl (E.2.1, 4, .inl (fun zz => nI (Sd zz))))]) ∨ (∃ (y : Nat) (h : Nat), r = (-2) ∧ (a = nI y ∧ v = nI h ∧ 1 ≤ y ∧ y ≤ 2400 ∧ h ≤ 2000 ∧ (∃ i, i < M 0 ∧ nI (mP M i) = nI y)) ∧ w' = [(x, .inr (7, [.ref ms, .ref mp, .int (nI pz), .ref mt, .int (nI len), .ref md, .int (nI sp), .int q1, .int q2, .int q3, .int q4, .int q5, .int (nI fm)])), (ms, .inl (E.2.1, 265, .inl (fun zz => nI (M zz)))), (mp, .inl (E.2.1, 1060, .inl (fun zz => nI (Pa zz)))), (md, .inl (E.2.1, 4, .inl (fun zz => nI (Sd zz))))]) ∨ (∃ (y : Nat) (h : Nat), r = (-3) ∧ (a = nI y ∧ v = nI h ∧ 1 ≤ y ∧ y ≤ 2400 ∧ h ≤ 2000 ∧ (¬ ∃ i, i < M 0 ∧ nI (mP M i) = nI y) ∧ M 0 = 12) ∧ w' = [(x, .inr (7, [.ref ms, .ref mp, .int (nI pz), .ref mt, .int (nI len), .ref md, .int (nI sp), .int q1, .int q2, .int q3, .int q4, .int q5, .int (nI fm)])), (ms, .inl (E.2.1, 265, .inl (fun zz => nI (M zz)))), (mp, .inl (E.2.1, 1060, .inl (fun zz => nI (Pa zz)))), (md, .inl (E.2.1, 4, .inl (fun zz => nI (Sd zz))))]) ∨ (∃ (y : Nat) (h : Nat), r = nI (insI (mP M) y (M 0) + 1) ∧ (a = nI y ∧ v = nI h ∧ 1 ≤ y ∧ y ≤ 2400 ∧ h ≤ 2000 ∧ (¬ ∃ i, i < M 0 ∧ nI (mP M i) = nI y) ∧ M 0 < 12) ∧ w' = [(x, .inr (7, [.ref ms, .ref mp, .int (nI (rcS pz)), .ref mt, .int (nI len), .ref md, .int (nI sp), .int q1, .int q2, .int q3, .int q4, .int q5, .int (nI fm)])), (ms, .inl (E.2.1, 265, .inl (fun zz => nI ((mvL (frM M y h) (sdL M Sd 4) 4) zz)))), (mp, .inl (E.2.1, 1060, .inl (fun zz => nI ((rcP Pa M pz) zz)))), (md, .inl (E.2.1, 4, .inl (fun zz => nI ((sdL M Sd 4) zz))))])) := by
  refine zM.start (own := RX7) rfl (by decide +kernel) rfl (Nat.le_of_ble_eq_true rfl) (fun _ _ _ => rfl) ?_
  intro pZ eZ sZ mZ argsZ belowZ methZ cZ QZ AZ hF hret HZ locsZ hP hD hS hG ls hl
  obtain ⟨hx, hb, hml, hown, hts⟩ := id hF
  have hl : lv_has ls 5 [(0, .ref x), (1, .int a), (2, .int v)] := hl
  refine lv_iload_n hx hb dX7_fret_0 rfl (lv_at hl 1 rfl) ?_
  refine lv_iconst (v := nI 1) hx hb dX7_fret_1 (by decide) ?_
  refine lv_sipush (v := nI 2400) hx hb dX7_fret_2 (by decide) ?_
  refine z_rd (fun _ h => h) (va_runS (As := [.int a, .int (nI 1), .int (nI 2400)]) (rest := []) hF (c_X7_in l E a (nI 1) (nI 2400) ) (va_cwS 3 hts gX7_fret_X7_in rfl rfl rfl (by decide +kernel) ⟨Nat.le_of_ble_eq_true rfl, Nat.le_of_ble_eq_true rfl⟩) (z_preR (fun k q h => by simp at h) hG) rfl rfl hl.1 rfl (lv_room (Nat.le_of_ble_eq_true rfl)) dX7_fret_5 ⟨Nat.zero_le _, Nat.zero_le _⟩) (fun r1 hr1 => ?_)
  rcases hr1 with ⟨rfl, c2⟩ | ⟨rfl, c2⟩
  · -- 5 t
    have ka := c2
    refine lv_if_eq (tgt := 22) hx hb dX7_fret_8 (by decide) (fun c => absurd c (by decide)) (fun _ => ?_)
    refine lv_iload_n hx hb dX7_fret_11 rfl (lv_at hl 2 rfl) ?_
    refine lv_iconst (v := nI 0) hx hb dX7_fret_12 (by decide) ?_
    refine lv_sipush (v := nI 2000) hx hb dX7_fret_13 (by decide) ?_
    refine z_rd (fun _ h => h) (va_runS (As := [.int v, .int (nI 0), .int (nI 2000)]) (rest := []) hF (c_X7_in l E v (nI 0) (nI 2000) ) (va_cwS 3 hts gX7_fret_X7_in rfl rfl rfl (by decide +kernel) ⟨Nat.le_of_ble_eq_true rfl, Nat.le_of_ble_eq_true rfl⟩) (z_preR (fun k q h => by simp at h) hG) rfl rfl hl.1 rfl (lv_room (Nat.le_of_ble_eq_true rfl)) dX7_fret_16 ⟨Nat.zero_le _, Nat.zero_le _⟩) (fun r3 hr3 => ?_)
    rcases hr3 with ⟨rfl, c4⟩ | ⟨rfl, c4⟩
    · -- 16 t
      obtain ⟨y, hy1, hy2, rfl⟩ := z_ge (by omega) (by omega) ka.1 ka.2
      obtain ⟨h, hh1, hh2, rfl⟩ := z_ge (by omega) (by omega) c4.1 c4.2
      have hk0 : NK M := ⟨hn, hPb, hHb, hprn⟩
      refine lv_if_ne (tgt := 24) hx hb dX7_fret_19 (by decide) (fun _ => ?_) (fun c => absurd c (by decide))
      refine lv_aload_n hx hb dX7_fret_24 rfl (lv_at hl 0 rfl) ?_
      refine lv_iload_n hx hb dX7_fret_25 rfl (lv_at hl 1 rfl) ?_
      have hPc := zP_sub (w := [(x, .inr (7, [.ref ms, .ref mp, .int (nI pz), .ref mt, .int (nI len), .ref md, .int (nI sp), .int q1, .int q2, .int q3, .int q4, .int q5, .int (nI fm)])), (ms, .inl (E.2.1, 265, .inl (fun zz => nI (M zz))))]) hP [0, 1] rfl
      refine z_rd (fun _ h => h) (va_runV (As := [.int (nI y)]) (rest := []) hF (c_X7_isThere l E x ms mp mt md pz len sp fm q1 q2 q3 q4 q5 (nI y) M (by first | assumption | omega)) (cwV 1 hts gX7_fret_X7_isThere rfl rfl rfl (by decide +kernel) ⟨Nat.le_of_ble_eq_true rfl, Nat.le_of_ble_eq_true rfl⟩) (z_preRV (va_recv hG.1 hP (ci := 7) (q0 := 0) rfl rfl) hPc hG) rfl rfl hl.1 rfl (lv_room (Nat.le_of_ble_eq_true rfl)) dX7_fret_26 ⟨Nat.zero_le _, Nat.zero_le _⟩) (fun r5 hr5 => ?_)
      rcases hr5 with ⟨rfl, c6⟩ | ⟨rfl, c6⟩
      · -- 26 t
        refine lv_if_eq (tgt := 35) hx hb dX7_fret_29 (by decide) (fun c => absurd c (by decide)) (fun _ => ?_)
        refine lv_bipush (v := (-2)) hx hb dX7_fret_32 (by decide) ?_
        exact hret _ _ _ _ _ _ hP hS dX7_fret_34 rfl (Or.inr (Or.inl ⟨y, h, rfl, ⟨rfl, rfl, by omega, by omega, by omega, by assumption⟩, rfl⟩))
      · -- 26 f
        have hnt := c6
        refine lv_if_eq (tgt := 35) hx hb dX7_fret_29 (by decide) (fun _ => ?_) (fun c => absurd c (by decide))
        refine lv_aload_n hx hb dX7_fret_35 rfl (lv_at hl 0 rfl) ?_
        refine va_get (D := E.1) (ci := 7) (v := .ref ms) (C := RX7) (T := TX7) (N := 13) hx hb hts iwX7_fret_X7_c_X7_fret hown hG.1 hP 0 rfl rfl 0 (by decide) (hts (.fieldLink RX7 7 "FrettedStringsModel" "st" "[I") (by decide +kernel)) (fun _ h9 => h9) rfl dX7_fret_36 ?_
        refine lv_iconst (v := nI 0) hx hb dX7_fret_39 (by decide) ?_
        refine z_iald (j := 0) (v := M 0) hx hb hG hP 1 rfl (by omega) (by decide) (rfl) dX7_fret_40 ?_
        refine lv_bipush (v := nI 12) hx hb dX7_fret_41 (by decide) ?_
        refine z_icmp_ne (a := M 0) (b := 12) (tgt := 49) hx hb dX7_fret_43 (by decide) (by omega) (by omega) (fun c7 => ?_) (fun c7 => ?_)
        · -- 43 t
          have hlt : M 0 < 12 := by omega
          have hkl := insI_le (mP M) y (M 0)
          have hk1 := NK_fr (y := y) (h := h) hlt (by omega) (by omega) hk0
          refine lv_aload_n hx hb dX7_fret_49 rfl (lv_at hl 0 rfl) ?_
          have hPc := zP_sub (w := [(x, .inr (7, [.ref ms, .ref mp, .int (nI pz), .ref mt, .int (nI len), .ref md, .int (nI sp), .int q1, .int q2, .int q3, .int q4, .int q5, .int (nI fm)])), (ms, .inl (E.2.1, 265, .inl (fun zz => nI (M zz)))), (mp, .inl (E.2.1, 1060, .inl (fun zz => nI (Pa zz))))]) hP [0, 1, 2] rfl
          have hDc := zD_sub (w := [(x, .inr (7, [.ref ms, .ref mp, .int (nI pz), .ref mt, .int (nI len), .ref md, .int (nI sp), .int q1, .int q2, .int q3, .int q4, .int q5, .int (nI fm)])), (ms, .inl (E.2.1, 265, .inl (fun zz => nI (M zz)))), (mp, .inl (E.2.1, 1060, .inl (fun zz => nI (Pa zz))))]) hD [0, 1, 2] (by decide) rfl
          refine z_vd [0, 1, 2] (va_runV (As := []) (rest := []) hF (c_X7_records l E x ms mp mt md pz len sp fm q1 q2 q3 q4 q5 M Pa (by first | assumption | omega)) (cwV 0 hts gX7_fret_X7_records rfl rfl rfl (by decide +kernel) ⟨Nat.le_of_ble_eq_true rfl, Nat.le_of_ble_eq_true rfl⟩) (z_preMV (va_recv hG.1 hP (ci := 7) (q0 := 0) rfl rfl) hPc hDc hG) rfl rfl hl.1 rfl (lv_room (Nat.le_of_ble_eq_true rfl)) dX7_fret_50 ⟨Nat.zero_le _, Nat.zero_le _⟩) hP hD hS rfl (fun w' HZ locsZ hw hP hD hS => ?_)
          subst hw
          have hP : va_P E.1 vwCl [(x, .inr (7, [.ref ms, .ref mp, .int (nI (rcS pz)), .ref mt, .int (nI len), .ref md, .int (nI sp), .int q1, .int q2, .int q3, .int q4, .int q5, .int (nI fm)])), (ms, .inl (E.2.1, 265, .inl (fun zz => nI (M zz)))), (mp, .inl (E.2.1, 1060, .inl (fun zz => nI ((rcP Pa M pz) zz)))), (md, .inl (E.2.1, 4, .inl (fun zz => nI (Sd zz))))] _ := hP
          have hD : va_D AZ [(x, .inr (7, [.ref ms, .ref mp, .int (nI (rcS pz)), .ref mt, .int (nI len), .ref md, .int (nI sp), .int q1, .int q2, .int q3, .int q4, .int q5, .int (nI fm)])), (ms, .inl (E.2.1, 265, .inl (fun zz => nI (M zz)))), (mp, .inl (E.2.1, 1060, .inl (fun zz => nI ((rcP Pa M pz) zz)))), (md, .inl (E.2.1, 4, .inl (fun zz => nI (Sd zz))))] := hD
          refine lv_aload_n hx hb dX7_fret_53 rfl (lv_at hl 0 rfl) ?_
          have hPc := zP_sub (w := [(x, .inr (7, [.ref ms, .ref mp, .int (nI (rcS pz)), .ref mt, .int (nI len), .ref md, .int (nI sp), .int q1, .int q2, .int q3, .int q4, .int q5, .int (nI fm)])), (ms, .inl (E.2.1, 265, .inl (fun zz => nI (M zz)))), (md, .inl (E.2.1, 4, .inl (fun zz => nI (Sd zz))))]) hP [0, 1, 3] rfl
          have hDc := zD_sub (w := [(x, .inr (7, [.ref ms, .ref mp, .int (nI (rcS pz)), .ref mt, .int (nI len), .ref md, .int (nI sp), .int q1, .int q2, .int q3, .int q4, .int q5, .int (nI fm)])), (ms, .inl (E.2.1, 265, .inl (fun zz => nI (M zz)))), (md, .inl (E.2.1, 4, .inl (fun zz => nI (Sd zz))))]) hD [0, 1, 3] (by decide) rfl
          refine z_vd [0, 1, 3] (va_runV (As := []) (rest := []) hF (c_X7_stands l E x ms mp mt md (rcS pz) len sp fm q1 q2 q3 q4 q5 M Sd (by first | assumption | omega) (by first | assumption | omega) (by first | assumption | omega) (by first | assumption | omega)) (cwV 0 hts gX7_fret_X7_stands rfl rfl rfl (by decide +kernel) ⟨Nat.le_of_ble_eq_true rfl, Nat.le_of_ble_eq_true rfl⟩) (z_preMV (va_recv hG.1 hP (ci := 7) (q0 := 0) rfl rfl) hPc hDc hG) rfl rfl hl.1 rfl (lv_room (Nat.le_of_ble_eq_true rfl)) dX7_fret_54 ⟨Nat.zero_le _, Nat.zero_le _⟩) hP hD hS rfl (fun w' HZ locsZ hw hP hD hS => ?_)
          subst hw
          have hP : va_P E.1 vwCl [(x, .inr (7, [.ref ms, .ref mp, .int (nI (rcS pz)), .ref mt, .int (nI len), .ref md, .int (nI sp), .int q1, .int q2, .int q3, .int q4, .int q5, .int (nI fm)])), (ms, .inl (E.2.1, 265, .inl (fun zz => nI (M zz)))), (mp, .inl (E.2.1, 1060, .inl (fun zz => nI ((rcP Pa M pz) zz)))), (md, .inl (E.2.1, 4, .inl (fun zz => nI ((sdL M Sd 4) zz))))] _ := hP
          have hD : va_D AZ [(x, .inr (7, [.ref ms, .ref mp, .int (nI (rcS pz)), .ref mt, .int (nI len), .ref md, .int (nI sp), .int q1, .int q2, .int q3, .int q4, .int q5, .int (nI fm)])), (ms, .inl (E.2.1, 265, .inl (fun zz => nI (M zz)))), (mp, .inl (E.2.1, 1060, .inl (fun zz => nI ((rcP Pa M pz) zz)))), (md, .inl (E.2.1, 4, .inl (fun zz => nI ((sdL M Sd 4) zz))))] := hD
          refine lv_aload_n hx hb dX7_fret_57 rfl (lv_at hl 0 rfl) ?_
          refine va_get (D := E.1) (ci := 7) (v := .ref ms) (C := RX7) (T := TX7) (N := 13) hx hb hts iwX7_fret_X7_c_X7_fret hown hG.1 hP 0 rfl rfl 0 (by decide) (hts (.fieldLink RX7 7 "FrettedStringsModel" "st" "[I") (by decide +kernel)) (fun _ h9 => h9) rfl dX7_fret_58 ?_
          refine lv_iconst (v := nI 0) hx hb dX7_fret_61 (by decide) ?_
          refine lv_dup2_11 hx hb dX7_fret_62 rfl rfl ?_
          refine z_iald (j := 0) (v := M 0) hx hb hG hP 1 rfl (by omega) (by decide) (rfl) dX7_fret_63 ?_
          refine lv_iconst (v := nI 1) hx hb dX7_fret_64 (by decide) ?_
          refine z_iadd (a := M 0) (b := 1) hx hb dX7_fret_65 ?_
          refine z_iast (j := 0) (v := (M 0) + 1) (g := va_up M 0 ((M 0) + 1)) hx hb hG hP hD hS 1 rfl (by omega) (by decide) (rfl) dX7_fret_66 (fun HZ locsZ hP hD hS => ?_)
          have hP : va_P E.1 vwCl [(x, .inr (7, [.ref ms, .ref mp, .int (nI (rcS pz)), .ref mt, .int (nI len), .ref md, .int (nI sp), .int q1, .int q2, .int q3, .int q4, .int q5, .int (nI fm)])), (ms, .inl (E.2.1, 265, .inl (fun zz => nI ((va_up M 0 ((M 0) + 1)) zz)))), (mp, .inl (E.2.1, 1060, .inl (fun zz => nI ((rcP Pa M pz) zz)))), (md, .inl (E.2.1, 4, .inl (fun zz => nI ((sdL M Sd 4) zz))))] _ := hP
          have hD : va_D AZ [(x, .inr (7, [.ref ms, .ref mp, .int (nI (rcS pz)), .ref mt, .int (nI len), .ref md, .int (nI sp), .int q1, .int q2, .int q3, .int q4, .int q5, .int (nI fm)])), (ms, .inl (E.2.1, 265, .inl (fun zz => nI ((va_up M 0 ((M 0) + 1)) zz)))), (mp, .inl (E.2.1, 1060, .inl (fun zz => nI ((rcP Pa M pz) zz)))), (md, .inl (E.2.1, 4, .inl (fun zz => nI ((sdL M Sd 4) zz))))] := hD
          refine lv_aload_n hx hb dX7_fret_67 rfl (lv_at hl 0 rfl) ?_
          refine va_get (D := E.1) (ci := 7) (v := .ref ms) (C := RX7) (T := TX7) (N := 13) hx hb hts iwX7_fret_X7_c_X7_fret hown hG.1 hP 0 rfl rfl 0 (by decide) (hts (.fieldLink RX7 7 "FrettedStringsModel" "st" "[I") (by decide +kernel)) (fun _ h9 => h9) rfl dX7_fret_68 ?_
          refine lv_iconst (v := nI 0) hx hb dX7_fret_71 (by decide) ?_
          refine z_iald (j := 0) (v := (M 0) + 1) hx hb hG hP 1 rfl (by omega) (by decide) (va_up_at) dX7_fret_72 ?_
          refine lv_istore_n (lv' := [(3, .int (nI ((M 0) + 1))), (0, .ref x), (1, .int (nI y)), (2, .int (nI h))]) hx hb dX7_fret_73 rfl hl (by decide) rfl (fun ls hl => ?_)
          have L74_8 : ∀ (fuelZ : Nat) (g : Nat) (w9 : Nat), g < fuelZ → (1 ≤ g) → (g ≤ M 0 + 1) → (insI (mP M) y (M 0) = insI (mP M) y (g - 1)) → ∀ (HZ : Heap) (locsZ : List Loc), va_P E.1 vwCl [(x, .inr (7, [.ref ms, .ref mp, .int (nI (rcS pz)), .ref mt, .int (nI len), .ref md, .int (nI sp), .int q1, .int q2, .int q3, .int q4, .int q5, .int (nI fm)])), (ms, .inl (E.2.1, 265, .inl (fun zz => nI ((frS M (M 0) (g - 1)) zz)))), (mp, .inl (E.2.1, 1060, .inl (fun zz => nI ((rcP Pa M pz) zz)))), (md, .inl (E.2.1, 4, .inl (fun zz => nI ((sdL M Sd 4) zz))))] HZ → va_D AZ [(x, .inr (7, [.ref ms, .ref mp, .int (nI (rcS pz)), .ref mt, .int (nI len), .ref md, .int (nI sp), .int q1, .int q2, .int q3, .int q4, .int q5, .int (nI fm)])), (ms, .inl (E.2.1, 265, .inl (fun zz => nI ((frS M (M 0) (g - 1)) zz)))), (mp, .inl (E.2.1, 1060, .inl (fun zz => nI ((rcP Pa M pz) zz)))), (md, .inl (E.2.1, 4, .inl (fun zz => nI ((sdL M Sd 4) zz))))] → va_S AZ sZ.heap HZ locsZ → ∀ ls : Array Slot, lv_has ls 5 [(3, .int (nI g)), (0, .ref x), (1, .int (nI y)), (2, .int (nI h))] → W pZ l eZ ({ frames := 6, cells := 0, slots := 0, locals := 135 }) sZ mZ argsZ belowZ methZ cZ HZ locsZ 0 0 QZ (F0 mZ 74 ls []) := by
            intro fuelZ
            induction fuelZ with
            | zero => intro g w9 hm; exact absurd hm (Nat.not_lt_zero _)
            | succ fuelZ ih74 =>
              intro g w9 hm i0 i1 hI HZ locsZ hP hD hS ls hl
              refine lv_iload_n hx hb dX7_fret_74 rfl (lv_at hl 0 rfl) ?_
              refine lv_iconst (v := nI 1) hx hb dX7_fret_75 (by decide) ?_
              refine z_icmp_le (a := g) (b := 1) (tgt := 128) hx hb dX7_fret_76 (by decide) (by omega) (by omega) (fun c9 => ?_) (fun c9 => ?_)
              · -- 76 t
                have hkk : insI (mP M) y (M 0) = g - 1 := by rw [hI, show g - 1 = 0 by omega]; rfl
                refine lv_aload_n hx hb dX7_fret_128 rfl (lv_at hl 1 rfl) ?_
                refine lv_iload_n hx hb dX7_fret_129 rfl (lv_at hl 0 rfl) ?_
                refine lv_iconst (v := nI 0) hx hb dX7_fret_130 (by decide) ?_
                refine lv_iload_n hx hb dX7_fret_131 rfl (lv_at hl 2 rfl) ?_
                have hPc := zP_sub (w := [(x, .inr (7, [.ref ms, .ref mp, .int (nI (rcS pz)), .ref mt, .int (nI len), .ref md, .int (nI sp), .int q1, .int q2, .int q3, .int q4, .int q5, .int (nI fm)])), (ms, .inl (E.2.1, 265, .inl (fun zz => nI ((frS M (M 0) (g - 1)) zz))))]) hP [0, 1] rfl
                have hDc := zD_sub (w := [(x, .inr (7, [.ref ms, .ref mp, .int (nI (rcS pz)), .ref mt, .int (nI len), .ref md, .int (nI sp), .int q1, .int q2, .int q3, .int q4, .int q5, .int (nI fm)])), (ms, .inl (E.2.1, 265, .inl (fun zz => nI ((frS M (M 0) (g - 1)) zz))))]) hD [0, 1] (by decide) rfl
                refine z_vd [0, 1] (va_runV (As := [.int (nI g), .int (nI 0), .int (nI y)]) (rest := []) hF (c_X7_lays l E x ms mp mt md (rcS pz) len sp fm g 0 y q1 q2 q3 q4 q5 (frS M (M 0) (g - 1)) (by first | assumption | omega) (by first | assumption | omega) (by first | assumption | omega)) (cwV 3 hts gX7_fret_X7_lays rfl rfl rfl (by decide +kernel) ⟨Nat.le_of_ble_eq_true rfl, Nat.le_of_ble_eq_true rfl⟩) (z_preMV (va_recv hG.1 hP (ci := 7) (q0 := 0) rfl rfl) hPc hDc hG) rfl rfl hl.1 rfl (lv_room (Nat.le_of_ble_eq_true rfl)) dX7_fret_132 ⟨Nat.zero_le _, Nat.zero_le _⟩) hP hD hS rfl (fun w' HZ locsZ hw hP hD hS => ?_)
                subst hw
                have hP : va_P E.1 vwCl [(x, .inr (7, [.ref ms, .ref mp, .int (nI (rcS pz)), .ref mt, .int (nI len), .ref md, .int (nI sp), .int q1, .int q2, .int q3, .int q4, .int q5, .int (nI fm)])), (ms, .inl (E.2.1, 265, .inl (fun zz => nI ((va_up (frS M (M 0) (g - 1)) (9 + 3 * (g - 1) + 0) y) zz)))), (mp, .inl (E.2.1, 1060, .inl (fun zz => nI ((rcP Pa M pz) zz)))), (md, .inl (E.2.1, 4, .inl (fun zz => nI ((sdL M Sd 4) zz))))] _ := hP
                have hD : va_D AZ [(x, .inr (7, [.ref ms, .ref mp, .int (nI (rcS pz)), .ref mt, .int (nI len), .ref md, .int (nI sp), .int q1, .int q2, .int q3, .int q4, .int q5, .int (nI fm)])), (ms, .inl (E.2.1, 265, .inl (fun zz => nI ((va_up (frS M (M 0) (g - 1)) (9 + 3 * (g - 1) + 0) y) zz)))), (mp, .inl (E.2.1, 1060, .inl (fun zz => nI ((rcP Pa M pz) zz)))), (md, .inl (E.2.1, 4, .inl (fun zz => nI ((sdL M Sd 4) zz))))] := hD
                refine lv_aload_n hx hb dX7_fret_135 rfl (lv_at hl 1 rfl) ?_
                refine lv_iload_n hx hb dX7_fret_136 rfl (lv_at hl 0 rfl) ?_
                refine lv_iconst (v := nI 1) hx hb dX7_fret_137 (by decide) ?_
                refine lv_iload_n hx hb dX7_fret_138 rfl (lv_at hl 3 rfl) ?_
                have hPc := zP_sub (w := [(x, .inr (7, [.ref ms, .ref mp, .int (nI (rcS pz)), .ref mt, .int (nI len), .ref md, .int (nI sp), .int q1, .int q2, .int q3, .int q4, .int q5, .int (nI fm)])), (ms, .inl (E.2.1, 265, .inl (fun zz => nI ((va_up (frS M (M 0) (g - 1)) (9 + 3 * (g - 1) + 0) y) zz))))]) hP [0, 1] rfl
                have hDc := zD_sub (w := [(x, .inr (7, [.ref ms, .ref mp, .int (nI (rcS pz)), .ref mt, .int (nI len), .ref md, .int (nI sp), .int q1, .int q2, .int q3, .int q4, .int q5, .int (nI fm)])), (ms, .inl (E.2.1, 265, .inl (fun zz => nI ((va_up (frS M (M 0) (g - 1)) (9 + 3 * (g - 1) + 0) y) zz))))]) hD [0, 1] (by decide) rfl
                refine z_vd [0, 1] (va_runV (As := [.int (nI g), .int (nI 1), .int (nI h)]) (rest := []) hF (c_X7_lays l E x ms mp mt md (rcS pz) len sp fm g 1 h q1 q2 q3 q4 q5 (va_up (frS M (M 0) (g - 1)) (9 + 3 * (g - 1) + 0) y) (by first | assumption | omega) (by first | assumption | omega) (by first | assumption | omega)) (cwV 3 hts gX7_fret_X7_lays rfl rfl rfl (by decide +kernel) ⟨Nat.le_of_ble_eq_true rfl, Nat.le_of_ble_eq_true rfl⟩) (z_preMV (va_recv hG.1 hP (ci := 7) (q0 := 0) rfl rfl) hPc hDc hG) rfl rfl hl.1 rfl (lv_room (Nat.le_of_ble_eq_true rfl)) dX7_fret_139 ⟨Nat.zero_le _, Nat.zero_le _⟩) hP hD hS rfl (fun w' HZ locsZ hw hP hD hS => ?_)
                subst hw
                have hP : va_P E.1 vwCl [(x, .inr (7, [.ref ms, .ref mp, .int (nI (rcS pz)), .ref mt, .int (nI len), .ref md, .int (nI sp), .int q1, .int q2, .int q3, .int q4, .int q5, .int (nI fm)])), (ms, .inl (E.2.1, 265, .inl (fun zz => nI ((va_up (va_up (frS M (M 0) (g - 1)) (9 + 3 * (g - 1) + 0) y) (9 + 3 * (g - 1) + 1) h) zz)))), (mp, .inl (E.2.1, 1060, .inl (fun zz => nI ((rcP Pa M pz) zz)))), (md, .inl (E.2.1, 4, .inl (fun zz => nI ((sdL M Sd 4) zz))))] _ := hP
                have hD : va_D AZ [(x, .inr (7, [.ref ms, .ref mp, .int (nI (rcS pz)), .ref mt, .int (nI len), .ref md, .int (nI sp), .int q1, .int q2, .int q3, .int q4, .int q5, .int (nI fm)])), (ms, .inl (E.2.1, 265, .inl (fun zz => nI ((va_up (va_up (frS M (M 0) (g - 1)) (9 + 3 * (g - 1) + 0) y) (9 + 3 * (g - 1) + 1) h) zz)))), (mp, .inl (E.2.1, 1060, .inl (fun zz => nI ((rcP Pa M pz) zz)))), (md, .inl (E.2.1, 4, .inl (fun zz => nI ((sdL M Sd 4) zz))))] := hD
                refine lv_aload_n hx hb dX7_fret_142 rfl (lv_at hl 1 rfl) ?_
                refine lv_iload_n hx hb dX7_fret_143 rfl (lv_at hl 0 rfl) ?_
                refine lv_iconst (v := nI 2) hx hb dX7_fret_144 (by decide) ?_
                refine lv_iconst (v := nI 0) hx hb dX7_fret_145 (by decide) ?_
                have hPc := zP_sub (w := [(x, .inr (7, [.ref ms, .ref mp, .int (nI (rcS pz)), .ref mt, .int (nI len), .ref md, .int (nI sp), .int q1, .int q2, .int q3, .int q4, .int q5, .int (nI fm)])), (ms, .inl (E.2.1, 265, .inl (fun zz => nI ((va_up (va_up (frS M (M 0) (g - 1)) (9 + 3 * (g - 1) + 0) y) (9 + 3 * (g - 1) + 1) h) zz))))]) hP [0, 1] rfl
                have hDc := zD_sub (w := [(x, .inr (7, [.ref ms, .ref mp, .int (nI (rcS pz)), .ref mt, .int (nI len), .ref md, .int (nI sp), .int q1, .int q2, .int q3, .int q4, .int q5, .int (nI fm)])), (ms, .inl (E.2.1, 265, .inl (fun zz => nI ((va_up (va_up (frS M (M 0) (g - 1)) (9 + 3 * (g - 1) + 0) y) (9 + 3 * (g - 1) + 1) h) zz))))]) hD [0, 1] (by decide) rfl
                refine z_vd [0, 1] (va_runV (As := [.int (nI g), .int (nI 2), .int (nI 0)]) (rest := []) hF (c_X7_lays l E x ms mp mt md (rcS pz) len sp fm g 2 0 q1 q2 q3 q4 q5 (va_up (va_up (frS M (M 0) (g - 1)) (9 + 3 * (g - 1) + 0) y) (9 + 3 * (g - 1) + 1) h) (by first | assumption | omega) (by first | assumption | omega) (by first | assumption | omega)) (cwV 3 hts gX7_fret_X7_lays rfl rfl rfl (by decide +kernel) ⟨Nat.le_of_ble_eq_true rfl, Nat.le_of_ble_eq_true rfl⟩) (z_preMV (va_recv hG.1 hP (ci := 7) (q0 := 0) rfl rfl) hPc hDc hG) rfl rfl hl.1 rfl (lv_room (Nat.le_of_ble_eq_true rfl)) dX7_fret_146 ⟨Nat.zero_le _, Nat.zero_le _⟩) hP hD hS rfl (fun w' HZ locsZ hw hP hD hS => ?_)
                subst hw
                have hP : va_P E.1 vwCl [(x, .inr (7, [.ref ms, .ref mp, .int (nI (rcS pz)), .ref mt, .int (nI len), .ref md, .int (nI sp), .int q1, .int q2, .int q3, .int q4, .int q5, .int (nI fm)])), (ms, .inl (E.2.1, 265, .inl (fun zz => nI ((va_up (va_up (va_up (frS M (M 0) (g - 1)) (9 + 3 * (g - 1) + 0) y) (9 + 3 * (g - 1) + 1) h) (9 + 3 * (g - 1) + 2) 0) zz)))), (mp, .inl (E.2.1, 1060, .inl (fun zz => nI ((rcP Pa M pz) zz)))), (md, .inl (E.2.1, 4, .inl (fun zz => nI ((sdL M Sd 4) zz))))] _ := hP
                have hD : va_D AZ [(x, .inr (7, [.ref ms, .ref mp, .int (nI (rcS pz)), .ref mt, .int (nI len), .ref md, .int (nI sp), .int q1, .int q2, .int q3, .int q4, .int q5, .int (nI fm)])), (ms, .inl (E.2.1, 265, .inl (fun zz => nI ((va_up (va_up (va_up (frS M (M 0) (g - 1)) (9 + 3 * (g - 1) + 0) y) (9 + 3 * (g - 1) + 1) h) (9 + 3 * (g - 1) + 2) 0) zz)))), (mp, .inl (E.2.1, 1060, .inl (fun zz => nI ((rcP Pa M pz) zz)))), (md, .inl (E.2.1, 4, .inl (fun zz => nI ((sdL M Sd 4) zz))))] := hD
                have e10 : (va_up (va_up (va_up (frS M (M 0) (g - 1)) (9 + 3 * (g - 1) + 0) y) (9 + 3 * (g - 1) + 1) h) (9 + 3 * (g - 1) + 2) 0 : Nat → Nat) = frI M (M 0) (insI (mP M) y (M 0)) y h := by first | rfl | (rw [hkk]; rfl)
                have hP : va_P E.1 vwCl [(x, .inr (7, [.ref ms, .ref mp, .int (nI (rcS pz)), .ref mt, .int (nI len), .ref md, .int (nI sp), .int q1, .int q2, .int q3, .int q4, .int q5, .int (nI fm)])), (ms, .inl (E.2.1, 265, .inl (fun zz => nI ((frI M (M 0) (insI (mP M) y (M 0)) y h) zz)))), (mp, .inl (E.2.1, 1060, .inl (fun zz => nI ((rcP Pa M pz) zz)))), (md, .inl (E.2.1, 4, .inl (fun zz => nI ((sdL M Sd 4) zz))))] HZ := Eq.subst (motive := fun XX : Nat → Nat => va_P E.1 vwCl [(x, .inr (7, [.ref ms, .ref mp, .int (nI (rcS pz)), .ref mt, .int (nI len), .ref md, .int (nI sp), .int q1, .int q2, .int q3, .int q4, .int q5, .int (nI fm)])), (ms, .inl (E.2.1, 265, .inl (fun zz => nI (XX zz)))), (mp, .inl (E.2.1, 1060, .inl (fun zz => nI ((rcP Pa M pz) zz)))), (md, .inl (E.2.1, 4, .inl (fun zz => nI ((sdL M Sd 4) zz))))] HZ) e10 hP
                have hD : va_D AZ [(x, .inr (7, [.ref ms, .ref mp, .int (nI (rcS pz)), .ref mt, .int (nI len), .ref md, .int (nI sp), .int q1, .int q2, .int q3, .int q4, .int q5, .int (nI fm)])), (ms, .inl (E.2.1, 265, .inl (fun zz => nI ((frI M (M 0) (insI (mP M) y (M 0)) y h) zz)))), (mp, .inl (E.2.1, 1060, .inl (fun zz => nI ((rcP Pa M pz) zz)))), (md, .inl (E.2.1, 4, .inl (fun zz => nI ((sdL M Sd 4) zz))))] := Eq.subst (motive := fun XX : Nat → Nat => va_D AZ [(x, .inr (7, [.ref ms, .ref mp, .int (nI (rcS pz)), .ref mt, .int (nI len), .ref md, .int (nI sp), .int q1, .int q2, .int q3, .int q4, .int q5, .int (nI fm)])), (ms, .inl (E.2.1, 265, .inl (fun zz => nI (XX zz)))), (mp, .inl (E.2.1, 1060, .inl (fun zz => nI ((rcP Pa M pz) zz)))), (md, .inl (E.2.1, 4, .inl (fun zz => nI ((sdL M Sd 4) zz))))]) e10 hD
                refine lv_iconst (v := nI 0) hx hb dX7_fret_149 (by decide) ?_
                refine lv_istore (lv' := [(4, .int (nI 0)), (3, .int (nI g)), (0, .ref x), (1, .int (nI y)), (2, .int (nI h))]) hx hb dX7_fret_150 hl (by decide) rfl (fun ls hl => ?_)
                have L152_11 : ∀ (fuelZ : Nat) (t : Nat), 4 - t < fuelZ → (t ≤ 4) → ∀ (HZ : Heap) (locsZ : List Loc), va_P E.1 vwCl [(x, .inr (7, [.ref ms, .ref mp, .int (nI (rcS pz)), .ref mt, .int (nI len), .ref md, .int (nI sp), .int q1, .int q2, .int q3, .int q4, .int q5, .int (nI fm)])), (ms, .inl (E.2.1, 265, .inl (fun zz => nI ((mrM (frI M (M 0) (insI (mP M) y (M 0)) y h) (insI (mP M) y (M 0) + 1) t) zz)))), (mp, .inl (E.2.1, 1060, .inl (fun zz => nI ((rcP Pa M pz) zz)))), (md, .inl (E.2.1, 4, .inl (fun zz => nI ((sdL M Sd 4) zz))))] HZ → va_D AZ [(x, .inr (7, [.ref ms, .ref mp, .int (nI (rcS pz)), .ref mt, .int (nI len), .ref md, .int (nI sp), .int q1, .int q2, .int q3, .int q4, .int q5, .int (nI fm)])), (ms, .inl (E.2.1, 265, .inl (fun zz => nI ((mrM (frI M (M 0) (insI (mP M) y (M 0)) y h) (insI (mP M) y (M 0) + 1) t) zz)))), (mp, .inl (E.2.1, 1060, .inl (fun zz => nI ((rcP Pa M pz) zz)))), (md, .inl (E.2.1, 4, .inl (fun zz => nI ((sdL M Sd 4) zz))))] → va_S AZ sZ.heap HZ locsZ → ∀ ls : Array Slot, lv_has ls 5 [(4, .int (nI t)), (3, .int (nI g)), (0, .ref x), (1, .int (nI y)), (2, .int (nI h))] → W pZ l eZ ({ frames := 6, cells := 0, slots := 0, locals := 135 }) sZ mZ argsZ belowZ methZ cZ HZ locsZ 0 0 QZ (F0 mZ 152 ls []) := by
                  intro fuelZ
                  induction fuelZ with
                  | zero => intro t hm; exact absurd hm (Nat.not_lt_zero _)
                  | succ fuelZ ih152 =>
                    intro t hm k0 HZ locsZ hP hD hS ls hl
                    refine lv_iload hx hb dX7_fret_152 (lv_at hl 0 rfl) ?_
                    refine lv_iconst (v := nI 4) hx hb dX7_fret_154 (by decide) ?_
                    refine z_icmp_ge (a := t) (b := 4) (tgt := 195) hx hb dX7_fret_155 (by decide) (by omega) (by omega) (fun c12 => ?_) (fun c12 => ?_)
                    · -- 155 t
                      have e13 : (mrM (frI M (M 0) (insI (mP M) y (M 0)) y h) (insI (mP M) y (M 0) + 1) t : Nat → Nat) = frM M y h := by first | rfl | (rw [show t = 4 by omega]; rfl)
                      have hP : va_P E.1 vwCl [(x, .inr (7, [.ref ms, .ref mp, .int (nI (rcS pz)), .ref mt, .int (nI len), .ref md, .int (nI sp), .int q1, .int q2, .int q3, .int q4, .int q5, .int (nI fm)])), (ms, .inl (E.2.1, 265, .inl (fun zz => nI ((frM M y h) zz)))), (mp, .inl (E.2.1, 1060, .inl (fun zz => nI ((rcP Pa M pz) zz)))), (md, .inl (E.2.1, 4, .inl (fun zz => nI ((sdL M Sd 4) zz))))] HZ := Eq.subst (motive := fun XX : Nat → Nat => va_P E.1 vwCl [(x, .inr (7, [.ref ms, .ref mp, .int (nI (rcS pz)), .ref mt, .int (nI len), .ref md, .int (nI sp), .int q1, .int q2, .int q3, .int q4, .int q5, .int (nI fm)])), (ms, .inl (E.2.1, 265, .inl (fun zz => nI (XX zz)))), (mp, .inl (E.2.1, 1060, .inl (fun zz => nI ((rcP Pa M pz) zz)))), (md, .inl (E.2.1, 4, .inl (fun zz => nI ((sdL M Sd 4) zz))))] HZ) e13 hP
                      have hD : va_D AZ [(x, .inr (7, [.ref ms, .ref mp, .int (nI (rcS pz)), .ref mt, .int (nI len), .ref md, .int (nI sp), .int q1, .int q2, .int q3, .int q4, .int q5, .int (nI fm)])), (ms, .inl (E.2.1, 265, .inl (fun zz => nI ((frM M y h) zz)))), (mp, .inl (E.2.1, 1060, .inl (fun zz => nI ((rcP Pa M pz) zz)))), (md, .inl (E.2.1, 4, .inl (fun zz => nI ((sdL M Sd 4) zz))))] := Eq.subst (motive := fun XX : Nat → Nat => va_D AZ [(x, .inr (7, [.ref ms, .ref mp, .int (nI (rcS pz)), .ref mt, .int (nI len), .ref md, .int (nI sp), .int q1, .int q2, .int q3, .int q4, .int q5, .int (nI fm)])), (ms, .inl (E.2.1, 265, .inl (fun zz => nI (XX zz)))), (mp, .inl (E.2.1, 1060, .inl (fun zz => nI ((rcP Pa M pz) zz)))), (md, .inl (E.2.1, 4, .inl (fun zz => nI ((sdL M Sd 4) zz))))]) e13 hD
                      refine lv_aload_n hx hb dX7_fret_195 rfl (lv_at hl 2 rfl) ?_
                      have hPc := zP_sub (w := [(x, .inr (7, [.ref ms, .ref mp, .int (nI (rcS pz)), .ref mt, .int (nI len), .ref md, .int (nI sp), .int q1, .int q2, .int q3, .int q4, .int q5, .int (nI fm)])), (ms, .inl (E.2.1, 265, .inl (fun zz => nI ((frM M y h) zz)))), (md, .inl (E.2.1, 4, .inl (fun zz => nI ((sdL M Sd 4) zz))))]) hP [0, 1, 3] rfl
                      have hDc := zD_sub (w := [(x, .inr (7, [.ref ms, .ref mp, .int (nI (rcS pz)), .ref mt, .int (nI len), .ref md, .int (nI sp), .int q1, .int q2, .int q3, .int q4, .int q5, .int (nI fm)])), (ms, .inl (E.2.1, 265, .inl (fun zz => nI ((frM M y h) zz)))), (md, .inl (E.2.1, 4, .inl (fun zz => nI ((sdL M Sd 4) zz))))]) hD [0, 1, 3] (by decide) rfl
                      refine z_vd [0, 1, 3] (va_runV (As := []) (rest := []) hF (c_X7_moved l E x ms mp mt md (rcS pz) len sp fm q1 q2 q3 q4 q5 (frM M y h) (sdL M Sd 4) (hk1.1) (hk1.2.1) (hk1.2.2.1) (hk1.2.2.2) (sd_le hk0)) (cwV 0 hts gX7_fret_X7_moved rfl rfl rfl (by decide +kernel) ⟨Nat.le_of_ble_eq_true rfl, Nat.le_of_ble_eq_true rfl⟩) (z_preMV (va_recv hG.1 hP (ci := 7) (q0 := 0) rfl rfl) hPc hDc hG) rfl rfl hl.1 rfl (lv_room (Nat.le_of_ble_eq_true rfl)) dX7_fret_196 ⟨Nat.zero_le _, Nat.zero_le _⟩) hP hD hS rfl (fun w' HZ locsZ hw hP hD hS => ?_)
                      subst hw
                      have hP : va_P E.1 vwCl [(x, .inr (7, [.ref ms, .ref mp, .int (nI (rcS pz)), .ref mt, .int (nI len), .ref md, .int (nI sp), .int q1, .int q2, .int q3, .int q4, .int q5, .int (nI fm)])), (ms, .inl (E.2.1, 265, .inl (fun zz => nI ((mvL (frM M y h) (sdL M Sd 4) 4) zz)))), (mp, .inl (E.2.1, 1060, .inl (fun zz => nI ((rcP Pa M pz) zz)))), (md, .inl (E.2.1, 4, .inl (fun zz => nI ((sdL M Sd 4) zz))))] _ := hP
                      have hD : va_D AZ [(x, .inr (7, [.ref ms, .ref mp, .int (nI (rcS pz)), .ref mt, .int (nI len), .ref md, .int (nI sp), .int q1, .int q2, .int q3, .int q4, .int q5, .int (nI fm)])), (ms, .inl (E.2.1, 265, .inl (fun zz => nI ((mvL (frM M y h) (sdL M Sd 4) 4) zz)))), (mp, .inl (E.2.1, 1060, .inl (fun zz => nI ((rcP Pa M pz) zz)))), (md, .inl (E.2.1, 4, .inl (fun zz => nI ((sdL M Sd 4) zz))))] := hD
                      refine lv_iload_n hx hb dX7_fret_199 rfl (lv_at hl 1 rfl) ?_
                      exact hret _ _ _ _ _ _ hP hS dX7_fret_200 rfl (Or.inr (Or.inr (Or.inr (⟨y, h, by first | rfl | (congr 1; omega), ⟨rfl, rfl, by omega, by omega, by omega, hnt, hlt⟩, rfl⟩))))
                    · -- 155 f
                      refine lv_aload_n hx hb dX7_fret_158 rfl (lv_at hl 2 rfl) ?_
                      refine lv_iload hx hb dX7_fret_159 (lv_at hl 0 rfl) ?_
                      refine lv_iconst (v := nI 1) hx hb dX7_fret_161 (by decide) ?_
                      refine lv_aload_n hx hb dX7_fret_162 rfl (lv_at hl 2 rfl) ?_
                      refine lv_iload hx hb dX7_fret_163 (lv_at hl 0 rfl) ?_
                      refine lv_iconst (v := nI 1) hx hb dX7_fret_165 (by decide) ?_
                      have hPc := zP_sub (w := [(x, .inr (7, [.ref ms, .ref mp, .int (nI (rcS pz)), .ref mt, .int (nI len), .ref md, .int (nI sp), .int q1, .int q2, .int q3, .int q4, .int q5, .int (nI fm)])), (ms, .inl (E.2.1, 265, .inl (fun zz => nI ((mrM (frI M (M 0) (insI (mP M) y (M 0)) y h) (insI (mP M) y (M 0) + 1) t) zz))))]) hP [0, 1] rfl
                      refine z_rd (fun _ h => h) (va_runV (As := [.int (nI t), .int (nI 1)]) (rest := [.int (nI 1), .int (nI t), .ref x]) hF (c_X7_of l E x ms mp mt md (rcS pz) len sp fm t 1 q1 q2 q3 q4 q5 (mrM (frI M (M 0) (insI (mP M) y (M 0)) y h) (insI (mP M) y (M 0) + 1) t) (by first | assumption | omega) (by first | assumption | omega)) (cwV 2 hts gX7_fret_X7_of rfl rfl rfl (by decide +kernel) ⟨Nat.le_of_ble_eq_true rfl, Nat.le_of_ble_eq_true rfl⟩) (z_preRV (va_recv hG.1 hP (ci := 7) (q0 := 0) rfl rfl) hPc hG) rfl rfl hl.1 rfl (lv_room (Nat.le_of_ble_eq_true rfl)) dX7_fret_166 ⟨Nat.zero_le _, Nat.zero_le _⟩) (fun r15 hr15 => ?_)
                      subst hr15
                      have e16 : (mrM (frI M (M 0) (insI (mP M) y (M 0)) y h) (insI (mP M) y (M 0) + 1) t) (45 + 4 * t + 1) = M (45 + 4 * t + 1) := by rw [mrM_at, frI_pr hkl hlt (by omega)]
                      rw [e16]
                      refine lv_aload_n hx hb dX7_fret_169 rfl (lv_at hl 2 rfl) ?_
                      refine lv_iload hx hb dX7_fret_170 (lv_at hl 0 rfl) ?_
                      refine lv_iconst (v := nI 1) hx hb dX7_fret_172 (by decide) ?_
                      have hPc := zP_sub (w := [(x, .inr (7, [.ref ms, .ref mp, .int (nI (rcS pz)), .ref mt, .int (nI len), .ref md, .int (nI sp), .int q1, .int q2, .int q3, .int q4, .int q5, .int (nI fm)])), (ms, .inl (E.2.1, 265, .inl (fun zz => nI ((mrM (frI M (M 0) (insI (mP M) y (M 0)) y h) (insI (mP M) y (M 0) + 1) t) zz))))]) hP [0, 1] rfl
                      refine z_rd (fun _ h => h) (va_runV (As := [.int (nI t), .int (nI 1)]) (rest := [.int (nI (M (45 + 4 * t + 1))), .int (nI 1), .int (nI t), .ref x]) hF (c_X7_of l E x ms mp mt md (rcS pz) len sp fm t 1 q1 q2 q3 q4 q5 (mrM (frI M (M 0) (insI (mP M) y (M 0)) y h) (insI (mP M) y (M 0) + 1) t) (by first | assumption | omega) (by first | assumption | omega)) (cwV 2 hts gX7_fret_X7_of rfl rfl rfl (by decide +kernel) ⟨Nat.le_of_ble_eq_true rfl, Nat.le_of_ble_eq_true rfl⟩) (z_preRV (va_recv hG.1 hP (ci := 7) (q0 := 0) rfl rfl) hPc hG) rfl rfl hl.1 rfl (lv_room (Nat.le_of_ble_eq_true rfl)) dX7_fret_173 ⟨Nat.zero_le _, Nat.zero_le _⟩) (fun r17 hr17 => ?_)
                      subst hr17
                      have e18 : (mrM (frI M (M 0) (insI (mP M) y (M 0)) y h) (insI (mP M) y (M 0) + 1) t) (45 + 4 * t + 1) = M (45 + 4 * t + 1) := by rw [mrM_at, frI_pr hkl hlt (by omega)]
                      rw [e18]
                      refine lv_iload_n hx hb dX7_fret_176 rfl (lv_at hl 1 rfl) ?_
                      have hpq := hprn t (by omega)
                      unfold mPr at hpq
                      refine z_icmp_lt (a := M (45 + 4 * t + 1)) (b := g) (tgt := 184) hx hb dX7_fret_177 (by decide) (by omega) (by omega) (fun c19 => ?_) (fun c19 => ?_)
                      · -- 177 t
                        refine lv_iconst (v := nI 0) hx hb dX7_fret_184 (by decide) ?_
                        refine z_iadd (a := M (45 + 4 * t + 1)) (b := 0) hx hb dX7_fret_185 ?_
                        have hPc := zP_sub (w := [(x, .inr (7, [.ref ms, .ref mp, .int (nI (rcS pz)), .ref mt, .int (nI len), .ref md, .int (nI sp), .int q1, .int q2, .int q3, .int q4, .int q5, .int (nI fm)])), (ms, .inl (E.2.1, 265, .inl (fun zz => nI ((mrM (frI M (M 0) (insI (mP M) y (M 0)) y h) (insI (mP M) y (M 0) + 1) t) zz))))]) hP [0, 1] rfl
                        have hDc := zD_sub (w := [(x, .inr (7, [.ref ms, .ref mp, .int (nI (rcS pz)), .ref mt, .int (nI len), .ref md, .int (nI sp), .int q1, .int q2, .int q3, .int q4, .int q5, .int (nI fm)])), (ms, .inl (E.2.1, 265, .inl (fun zz => nI ((mrM (frI M (M 0) (insI (mP M) y (M 0)) y h) (insI (mP M) y (M 0) + 1) t) zz))))]) hD [0, 1] (by decide) rfl
                        refine z_vd [0, 1] (va_runV (As := [.int (nI t), .int (nI 1), .int (nI ((M (45 + 4 * t + 1)) + 0))]) (rest := []) hF (c_X7_puts l E x ms mp mt md (rcS pz) len sp fm t 1 ((M (45 + 4 * t + 1)) + 0) q1 q2 q3 q4 q5 (mrM (frI M (M 0) (insI (mP M) y (M 0)) y h) (insI (mP M) y (M 0) + 1) t) (by first | assumption | omega) (by first | assumption | omega)) (cwV 3 hts gX7_fret_X7_puts rfl rfl rfl (by decide +kernel) ⟨Nat.le_of_ble_eq_true rfl, Nat.le_of_ble_eq_true rfl⟩) (z_preMV (va_recv hG.1 hP (ci := 7) (q0 := 0) rfl rfl) hPc hDc hG) rfl rfl hl.1 rfl (lv_room (Nat.le_of_ble_eq_true rfl)) dX7_fret_186 ⟨Nat.zero_le _, Nat.zero_le _⟩) hP hD hS rfl (fun w' HZ locsZ hw hP hD hS => ?_)
                        subst hw
                        have hP : va_P E.1 vwCl [(x, .inr (7, [.ref ms, .ref mp, .int (nI (rcS pz)), .ref mt, .int (nI len), .ref md, .int (nI sp), .int q1, .int q2, .int q3, .int q4, .int q5, .int (nI fm)])), (ms, .inl (E.2.1, 265, .inl (fun zz => nI ((va_up (mrM (frI M (M 0) (insI (mP M) y (M 0)) y h) (insI (mP M) y (M 0) + 1) t) (45 + 4 * t + 1) ((M (45 + 4 * t + 1)) + 0)) zz)))), (mp, .inl (E.2.1, 1060, .inl (fun zz => nI ((rcP Pa M pz) zz)))), (md, .inl (E.2.1, 4, .inl (fun zz => nI ((sdL M Sd 4) zz))))] _ := hP
                        have hD : va_D AZ [(x, .inr (7, [.ref ms, .ref mp, .int (nI (rcS pz)), .ref mt, .int (nI len), .ref md, .int (nI sp), .int q1, .int q2, .int q3, .int q4, .int q5, .int (nI fm)])), (ms, .inl (E.2.1, 265, .inl (fun zz => nI ((va_up (mrM (frI M (M 0) (insI (mP M) y (M 0)) y h) (insI (mP M) y (M 0) + 1) t) (45 + 4 * t + 1) ((M (45 + 4 * t + 1)) + 0)) zz)))), (mp, .inl (E.2.1, 1060, .inl (fun zz => nI ((rcP Pa M pz) zz)))), (md, .inl (E.2.1, 4, .inl (fun zz => nI ((sdL M Sd 4) zz))))] := hD
                        refine z_iinc (k := 0) (d := 1) (lv' := [(4, .int (nI (t + 1))), (3, .int (nI g)), (0, .ref x), (1, .int (nI y)), (2, .int (nI h))]) hx hb dX7_fret_189 (by decide) hl rfl (by decide) rfl (fun ls hl => ?_)
                        refine lv_goto (tgt := 152) hx hb dX7_fret_192 (by decide) ?_
                        have e20 : (va_up (mrM (frI M (M 0) (insI (mP M) y (M 0)) y h) (insI (mP M) y (M 0) + 1) t) (45 + 4 * t + 1) ((M (45 + 4 * t + 1)) + 0) : Nat → Nat) = mrM (frI M (M 0) (insI (mP M) y (M 0)) y h) (insI (mP M) y (M 0) + 1) (t + 1) := by first | rfl | (exact mrM_s (by rw [frI_pr hkl hlt (by omega)]; first | (rw [if_pos (by omega)] <;> rfl) | (rw [if_neg (by omega)] <;> rfl)))
                        have hP : va_P E.1 vwCl [(x, .inr (7, [.ref ms, .ref mp, .int (nI (rcS pz)), .ref mt, .int (nI len), .ref md, .int (nI sp), .int q1, .int q2, .int q3, .int q4, .int q5, .int (nI fm)])), (ms, .inl (E.2.1, 265, .inl (fun zz => nI ((mrM (frI M (M 0) (insI (mP M) y (M 0)) y h) (insI (mP M) y (M 0) + 1) (t + 1)) zz)))), (mp, .inl (E.2.1, 1060, .inl (fun zz => nI ((rcP Pa M pz) zz)))), (md, .inl (E.2.1, 4, .inl (fun zz => nI ((sdL M Sd 4) zz))))] HZ := Eq.subst (motive := fun XX : Nat → Nat => va_P E.1 vwCl [(x, .inr (7, [.ref ms, .ref mp, .int (nI (rcS pz)), .ref mt, .int (nI len), .ref md, .int (nI sp), .int q1, .int q2, .int q3, .int q4, .int q5, .int (nI fm)])), (ms, .inl (E.2.1, 265, .inl (fun zz => nI (XX zz)))), (mp, .inl (E.2.1, 1060, .inl (fun zz => nI ((rcP Pa M pz) zz)))), (md, .inl (E.2.1, 4, .inl (fun zz => nI ((sdL M Sd 4) zz))))] HZ) e20 hP
                        have hD : va_D AZ [(x, .inr (7, [.ref ms, .ref mp, .int (nI (rcS pz)), .ref mt, .int (nI len), .ref md, .int (nI sp), .int q1, .int q2, .int q3, .int q4, .int q5, .int (nI fm)])), (ms, .inl (E.2.1, 265, .inl (fun zz => nI ((mrM (frI M (M 0) (insI (mP M) y (M 0)) y h) (insI (mP M) y (M 0) + 1) (t + 1)) zz)))), (mp, .inl (E.2.1, 1060, .inl (fun zz => nI ((rcP Pa M pz) zz)))), (md, .inl (E.2.1, 4, .inl (fun zz => nI ((sdL M Sd 4) zz))))] := Eq.subst (motive := fun XX : Nat → Nat => va_D AZ [(x, .inr (7, [.ref ms, .ref mp, .int (nI (rcS pz)), .ref mt, .int (nI len), .ref md, .int (nI sp), .int q1, .int q2, .int q3, .int q4, .int q5, .int (nI fm)])), (ms, .inl (E.2.1, 265, .inl (fun zz => nI (XX zz)))), (mp, .inl (E.2.1, 1060, .inl (fun zz => nI ((rcP Pa M pz) zz)))), (md, .inl (E.2.1, 4, .inl (fun zz => nI ((sdL M Sd 4) zz))))]) e20 hD
                        exact ih152 (t + 1) (by omega) (by omega) _ _ hP hD hS _ (lv_sub hl [0, 1, 2, 3, 4] rfl)
                      · -- 177 f
                        refine lv_iconst (v := nI 1) hx hb dX7_fret_180 (by decide) ?_
                        refine lv_goto (tgt := 185) hx hb dX7_fret_181 (by decide) ?_
                        refine z_iadd (a := M (45 + 4 * t + 1)) (b := 1) hx hb dX7_fret_185 ?_
                        have hPc := zP_sub (w := [(x, .inr (7, [.ref ms, .ref mp, .int (nI (rcS pz)), .ref mt, .int (nI len), .ref md, .int (nI sp), .int q1, .int q2, .int q3, .int q4, .int q5, .int (nI fm)])), (ms, .inl (E.2.1, 265, .inl (fun zz => nI ((mrM (frI M (M 0) (insI (mP M) y (M 0)) y h) (insI (mP M) y (M 0) + 1) t) zz))))]) hP [0, 1] rfl
                        have hDc := zD_sub (w := [(x, .inr (7, [.ref ms, .ref mp, .int (nI (rcS pz)), .ref mt, .int (nI len), .ref md, .int (nI sp), .int q1, .int q2, .int q3, .int q4, .int q5, .int (nI fm)])), (ms, .inl (E.2.1, 265, .inl (fun zz => nI ((mrM (frI M (M 0) (insI (mP M) y (M 0)) y h) (insI (mP M) y (M 0) + 1) t) zz))))]) hD [0, 1] (by decide) rfl
                        refine z_vd [0, 1] (va_runV (As := [.int (nI t), .int (nI 1), .int (nI ((M (45 + 4 * t + 1)) + 1))]) (rest := []) hF (c_X7_puts l E x ms mp mt md (rcS pz) len sp fm t 1 ((M (45 + 4 * t + 1)) + 1) q1 q2 q3 q4 q5 (mrM (frI M (M 0) (insI (mP M) y (M 0)) y h) (insI (mP M) y (M 0) + 1) t) (by first | assumption | omega) (by first | assumption | omega)) (cwV 3 hts gX7_fret_X7_puts rfl rfl rfl (by decide +kernel) ⟨Nat.le_of_ble_eq_true rfl, Nat.le_of_ble_eq_true rfl⟩) (z_preMV (va_recv hG.1 hP (ci := 7) (q0 := 0) rfl rfl) hPc hDc hG) rfl rfl hl.1 rfl (lv_room (Nat.le_of_ble_eq_true rfl)) dX7_fret_186 ⟨Nat.zero_le _, Nat.zero_le _⟩) hP hD hS rfl (fun w' HZ locsZ hw hP hD hS => ?_)
                        subst hw
                        have hP : va_P E.1 vwCl [(x, .inr (7, [.ref ms, .ref mp, .int (nI (rcS pz)), .ref mt, .int (nI len), .ref md, .int (nI sp), .int q1, .int q2, .int q3, .int q4, .int q5, .int (nI fm)])), (ms, .inl (E.2.1, 265, .inl (fun zz => nI ((va_up (mrM (frI M (M 0) (insI (mP M) y (M 0)) y h) (insI (mP M) y (M 0) + 1) t) (45 + 4 * t + 1) ((M (45 + 4 * t + 1)) + 1)) zz)))), (mp, .inl (E.2.1, 1060, .inl (fun zz => nI ((rcP Pa M pz) zz)))), (md, .inl (E.2.1, 4, .inl (fun zz => nI ((sdL M Sd 4) zz))))] _ := hP
                        have hD : va_D AZ [(x, .inr (7, [.ref ms, .ref mp, .int (nI (rcS pz)), .ref mt, .int (nI len), .ref md, .int (nI sp), .int q1, .int q2, .int q3, .int q4, .int q5, .int (nI fm)])), (ms, .inl (E.2.1, 265, .inl (fun zz => nI ((va_up (mrM (frI M (M 0) (insI (mP M) y (M 0)) y h) (insI (mP M) y (M 0) + 1) t) (45 + 4 * t + 1) ((M (45 + 4 * t + 1)) + 1)) zz)))), (mp, .inl (E.2.1, 1060, .inl (fun zz => nI ((rcP Pa M pz) zz)))), (md, .inl (E.2.1, 4, .inl (fun zz => nI ((sdL M Sd 4) zz))))] := hD
                        refine z_iinc (k := 0) (d := 1) (lv' := [(4, .int (nI (t + 1))), (3, .int (nI g)), (0, .ref x), (1, .int (nI y)), (2, .int (nI h))]) hx hb dX7_fret_189 (by decide) hl rfl (by decide) rfl (fun ls hl => ?_)
                        refine lv_goto (tgt := 152) hx hb dX7_fret_192 (by decide) ?_
                        have e21 : (va_up (mrM (frI M (M 0) (insI (mP M) y (M 0)) y h) (insI (mP M) y (M 0) + 1) t) (45 + 4 * t + 1) ((M (45 + 4 * t + 1)) + 1) : Nat → Nat) = mrM (frI M (M 0) (insI (mP M) y (M 0)) y h) (insI (mP M) y (M 0) + 1) (t + 1) := by first | rfl | (exact mrM_s (by rw [frI_pr hkl hlt (by omega)]; first | (rw [if_pos (by omega)] <;> rfl) | (rw [if_neg (by omega)] <;> rfl)))
                        have hP : va_P E.1 vwCl [(x, .inr (7, [.ref ms, .ref mp, .int (nI (rcS pz)), .ref mt, .int (nI len), .ref md, .int (nI sp), .int q1, .int q2, .int q3, .int q4, .int q5, .int (nI fm)])), (ms, .inl (E.2.1, 265, .inl (fun zz => nI ((mrM (frI M (M 0) (insI (mP M) y (M 0)) y h) (insI (mP M) y (M 0) + 1) (t + 1)) zz)))), (mp, .inl (E.2.1, 1060, .inl (fun zz => nI ((rcP Pa M pz) zz)))), (md, .inl (E.2.1, 4, .inl (fun zz => nI ((sdL M Sd 4) zz))))] HZ := Eq.subst (motive := fun XX : Nat → Nat => va_P E.1 vwCl [(x, .inr (7, [.ref ms, .ref mp, .int (nI (rcS pz)), .ref mt, .int (nI len), .ref md, .int (nI sp), .int q1, .int q2, .int q3, .int q4, .int q5, .int (nI fm)])), (ms, .inl (E.2.1, 265, .inl (fun zz => nI (XX zz)))), (mp, .inl (E.2.1, 1060, .inl (fun zz => nI ((rcP Pa M pz) zz)))), (md, .inl (E.2.1, 4, .inl (fun zz => nI ((sdL M Sd 4) zz))))] HZ) e21 hP
                        have hD : va_D AZ [(x, .inr (7, [.ref ms, .ref mp, .int (nI (rcS pz)), .ref mt, .int (nI len), .ref md, .int (nI sp), .int q1, .int q2, .int q3, .int q4, .int q5, .int (nI fm)])), (ms, .inl (E.2.1, 265, .inl (fun zz => nI ((mrM (frI M (M 0) (insI (mP M) y (M 0)) y h) (insI (mP M) y (M 0) + 1) (t + 1)) zz)))), (mp, .inl (E.2.1, 1060, .inl (fun zz => nI ((rcP Pa M pz) zz)))), (md, .inl (E.2.1, 4, .inl (fun zz => nI ((sdL M Sd 4) zz))))] := Eq.subst (motive := fun XX : Nat → Nat => va_D AZ [(x, .inr (7, [.ref ms, .ref mp, .int (nI (rcS pz)), .ref mt, .int (nI len), .ref md, .int (nI sp), .int q1, .int q2, .int q3, .int q4, .int q5, .int (nI fm)])), (ms, .inl (E.2.1, 265, .inl (fun zz => nI (XX zz)))), (mp, .inl (E.2.1, 1060, .inl (fun zz => nI ((rcP Pa M pz) zz)))), (md, .inl (E.2.1, 4, .inl (fun zz => nI ((sdL M Sd 4) zz))))]) e21 hD
                        exact ih152 (t + 1) (by omega) (by omega) _ _ hP hD hS _ (lv_sub hl [0, 1, 2, 3, 4] rfl)
                have e22 : (frI M (M 0) (insI (mP M) y (M 0)) y h : Nat → Nat) = mrM (frI M (M 0) (insI (mP M) y (M 0)) y h) (insI (mP M) y (M 0) + 1) 0 := by first | rfl | (exact mrM_0 _ _)
                have hP : va_P E.1 vwCl [(x, .inr (7, [.ref ms, .ref mp, .int (nI (rcS pz)), .ref mt, .int (nI len), .ref md, .int (nI sp), .int q1, .int q2, .int q3, .int q4, .int q5, .int (nI fm)])), (ms, .inl (E.2.1, 265, .inl (fun zz => nI ((mrM (frI M (M 0) (insI (mP M) y (M 0)) y h) (insI (mP M) y (M 0) + 1) 0) zz)))), (mp, .inl (E.2.1, 1060, .inl (fun zz => nI ((rcP Pa M pz) zz)))), (md, .inl (E.2.1, 4, .inl (fun zz => nI ((sdL M Sd 4) zz))))] HZ := Eq.subst (motive := fun XX : Nat → Nat => va_P E.1 vwCl [(x, .inr (7, [.ref ms, .ref mp, .int (nI (rcS pz)), .ref mt, .int (nI len), .ref md, .int (nI sp), .int q1, .int q2, .int q3, .int q4, .int q5, .int (nI fm)])), (ms, .inl (E.2.1, 265, .inl (fun zz => nI (XX zz)))), (mp, .inl (E.2.1, 1060, .inl (fun zz => nI ((rcP Pa M pz) zz)))), (md, .inl (E.2.1, 4, .inl (fun zz => nI ((sdL M Sd 4) zz))))] HZ) e22 hP
                have hD : va_D AZ [(x, .inr (7, [.ref ms, .ref mp, .int (nI (rcS pz)), .ref mt, .int (nI len), .ref md, .int (nI sp), .int q1, .int q2, .int q3, .int q4, .int q5, .int (nI fm)])), (ms, .inl (E.2.1, 265, .inl (fun zz => nI ((mrM (frI M (M 0) (insI (mP M) y (M 0)) y h) (insI (mP M) y (M 0) + 1) 0) zz)))), (mp, .inl (E.2.1, 1060, .inl (fun zz => nI ((rcP Pa M pz) zz)))), (md, .inl (E.2.1, 4, .inl (fun zz => nI ((sdL M Sd 4) zz))))] := Eq.subst (motive := fun XX : Nat → Nat => va_D AZ [(x, .inr (7, [.ref ms, .ref mp, .int (nI (rcS pz)), .ref mt, .int (nI len), .ref md, .int (nI sp), .int q1, .int q2, .int q3, .int q4, .int q5, .int (nI fm)])), (ms, .inl (E.2.1, 265, .inl (fun zz => nI (XX zz)))), (mp, .inl (E.2.1, 1060, .inl (fun zz => nI ((rcP Pa M pz) zz)))), (md, .inl (E.2.1, 4, .inl (fun zz => nI ((sdL M Sd 4) zz))))]) e22 hD
                exact L152_11 ((4 - 0) + 1) 0 (Nat.lt_succ_self _) (by omega) _ _ hP hD hS _ (lv_sub hl [0, 1, 2, 3, 4] rfl)
              · -- 76 f
                refine lv_aload_n hx hb dX7_fret_79 rfl (lv_at hl 1 rfl) ?_
                refine lv_iload_n hx hb dX7_fret_80 rfl (lv_at hl 0 rfl) ?_
                refine lv_iconst (v := nI 1) hx hb dX7_fret_81 (by decide) ?_
                refine z_isub (a := g) (b := 1) hx hb dX7_fret_82 (by omega) ?_
                refine lv_iconst (v := nI 0) hx hb dX7_fret_83 (by decide) ?_
                have hPc := zP_sub (w := [(x, .inr (7, [.ref ms, .ref mp, .int (nI (rcS pz)), .ref mt, .int (nI len), .ref md, .int (nI sp), .int q1, .int q2, .int q3, .int q4, .int q5, .int (nI fm)])), (ms, .inl (E.2.1, 265, .inl (fun zz => nI ((frS M (M 0) (g - 1)) zz))))]) hP [0, 1] rfl
                refine z_rd (fun _ h => h) (va_runV (As := [.int (nI (g - 1)), .int (nI 0)]) (rest := []) hF (c_X7_on l E x ms mp mt md (rcS pz) len sp fm (g - 1) 0 q1 q2 q3 q4 q5 (frS M (M 0) (g - 1)) (by first | assumption | omega) (by first | assumption | omega) (by first | assumption | omega)) (cwV 2 hts gX7_fret_X7_on rfl rfl rfl (by decide +kernel) ⟨Nat.le_of_ble_eq_true rfl, Nat.le_of_ble_eq_true rfl⟩) (z_preRV (va_recv hG.1 hP (ci := 7) (q0 := 0) rfl rfl) hPc hG) rfl rfl hl.1 rfl (lv_room (Nat.le_of_ble_eq_true rfl)) dX7_fret_84 ⟨Nat.zero_le _, Nat.zero_le _⟩) (fun r23 hr23 => ?_)
                subst hr23
                have e24 : (frS M (M 0) (g - 1)) (9 + 3 * ((g - 1) - 1) + 0) = M (9 + 3 * (g - 1 - 1) + 0) := by exact frS_p (by omega)
                rw [e24]
                have hpb := hPb (g - 1 - 1) (by omega)
                unfold mP at hpb
                refine lv_iload_n hx hb dX7_fret_87 rfl (lv_at hl 2 rfl) ?_
                refine z_icmp_le (a := M (9 + 3 * (g - 1 - 1) + 0)) (b := y) (tgt := 128) hx hb dX7_fret_88 (by decide) (by omega) (by omega) (fun c25 => ?_) (fun c25 => ?_)
                · -- 88 t
                  have hkk : insI (mP M) y (M 0) = g - 1 := by rw [hI]; exact fr_e (by omega) c25
                  refine lv_aload_n hx hb dX7_fret_128 rfl (lv_at hl 1 rfl) ?_
                  refine lv_iload_n hx hb dX7_fret_129 rfl (lv_at hl 0 rfl) ?_
                  refine lv_iconst (v := nI 0) hx hb dX7_fret_130 (by decide) ?_
                  refine lv_iload_n hx hb dX7_fret_131 rfl (lv_at hl 2 rfl) ?_
                  have hPc := zP_sub (w := [(x, .inr (7, [.ref ms, .ref mp, .int (nI (rcS pz)), .ref mt, .int (nI len), .ref md, .int (nI sp), .int q1, .int q2, .int q3, .int q4, .int q5, .int (nI fm)])), (ms, .inl (E.2.1, 265, .inl (fun zz => nI ((frS M (M 0) (g - 1)) zz))))]) hP [0, 1] rfl
                  have hDc := zD_sub (w := [(x, .inr (7, [.ref ms, .ref mp, .int (nI (rcS pz)), .ref mt, .int (nI len), .ref md, .int (nI sp), .int q1, .int q2, .int q3, .int q4, .int q5, .int (nI fm)])), (ms, .inl (E.2.1, 265, .inl (fun zz => nI ((frS M (M 0) (g - 1)) zz))))]) hD [0, 1] (by decide) rfl
                  refine z_vd [0, 1] (va_runV (As := [.int (nI g), .int (nI 0), .int (nI y)]) (rest := []) hF (c_X7_lays l E x ms mp mt md (rcS pz) len sp fm g 0 y q1 q2 q3 q4 q5 (frS M (M 0) (g - 1)) (by first | assumption | omega) (by first | assumption | omega) (by first | assumption | omega)) (cwV 3 hts gX7_fret_X7_lays rfl rfl rfl (by decide +kernel) ⟨Nat.le_of_ble_eq_true rfl, Nat.le_of_ble_eq_true rfl⟩) (z_preMV (va_recv hG.1 hP (ci := 7) (q0 := 0) rfl rfl) hPc hDc hG) rfl rfl hl.1 rfl (lv_room (Nat.le_of_ble_eq_true rfl)) dX7_fret_132 ⟨Nat.zero_le _, Nat.zero_le _⟩) hP hD hS rfl (fun w' HZ locsZ hw hP hD hS => ?_)
                  subst hw
                  have hP : va_P E.1 vwCl [(x, .inr (7, [.ref ms, .ref mp, .int (nI (rcS pz)), .ref mt, .int (nI len), .ref md, .int (nI sp), .int q1, .int q2, .int q3, .int q4, .int q5, .int (nI fm)])), (ms, .inl (E.2.1, 265, .inl (fun zz => nI ((va_up (frS M (M 0) (g - 1)) (9 + 3 * (g - 1) + 0) y) zz)))), (mp, .inl (E.2.1, 1060, .inl (fun zz => nI ((rcP Pa M pz) zz)))), (md, .inl (E.2.1, 4, .inl (fun zz => nI ((sdL M Sd 4) zz))))] _ := hP
                  have hD : va_D AZ [(x, .inr (7, [.ref ms, .ref mp, .int (nI (rcS pz)), .ref mt, .int (nI len), .ref md, .int (nI sp), .int q1, .int q2, .int q3, .int q4, .int q5, .int (nI fm)])), (ms, .inl (E.2.1, 265, .inl (fun zz => nI ((va_up (frS M (M 0) (g - 1)) (9 + 3 * (g - 1) + 0) y) zz)))), (mp, .inl (E.2.1, 1060, .inl (fun zz => nI ((rcP Pa M pz) zz)))), (md, .inl (E.2.1, 4, .inl (fun zz => nI ((sdL M Sd 4) zz))))] := hD
                  refine lv_aload_n hx hb dX7_fret_135 rfl (lv_at hl 1 rfl) ?_
                  refine lv_iload_n hx hb dX7_fret_136 rfl (lv_at hl 0 rfl) ?_
                  refine lv_iconst (v := nI 1) hx hb dX7_fret_137 (by decide) ?_
                  refine lv_iload_n hx hb dX7_fret_138 rfl (lv_at hl 3 rfl) ?_
                  have hPc := zP_sub (w := [(x, .inr (7, [.ref ms, .ref mp, .int (nI (rcS pz)), .ref mt, .int (nI len), .ref md, .int (nI sp), .int q1, .int q2, .int q3, .int q4, .int q5, .int (nI fm)])), (ms, .inl (E.2.1, 265, .inl (fun zz => nI ((va_up (frS M (M 0) (g - 1)) (9 + 3 * (g - 1) + 0) y) zz))))]) hP [0, 1] rfl
                  have hDc := zD_sub (w := [(x, .inr (7, [.ref ms, .ref mp, .int (nI (rcS pz)), .ref mt, .int (nI len), .ref md, .int (nI sp), .int q1, .int q2, .int q3, .int q4, .int q5, .int (nI fm)])), (ms, .inl (E.2.1, 265, .inl (fun zz => nI ((va_up (frS M (M 0) (g - 1)) (9 + 3 * (g - 1) + 0) y) zz))))]) hD [0, 1] (by decide) rfl
                  refine z_vd [0, 1] (va_runV (As := [.int (nI g), .int (nI 1), .int (nI h)]) (rest := []) hF (c_X7_lays l E x ms mp mt md (rcS pz) len sp fm g 1 h q1 q2 q3 q4 q5 (va_up (frS M (M 0) (g - 1)) (9 + 3 * (g - 1) + 0) y) (by first | assumption | omega) (by first | assumption | omega) (by first | assumption | omega)) (cwV 3 hts gX7_fret_X7_lays rfl rfl rfl (by decide +kernel) ⟨Nat.le_of_ble_eq_true rfl, Nat.le_of_ble_eq_true rfl⟩) (z_preMV (va_recv hG.1 hP (ci := 7) (q0 := 0) rfl rfl) hPc hDc hG) rfl rfl hl.1 rfl (lv_room (Nat.le_of_ble_eq_true rfl)) dX7_fret_139 ⟨Nat.zero_le _, Nat.zero_le _⟩) hP hD hS rfl (fun w' HZ locsZ hw hP hD hS => ?_)
                  subst hw
                  have hP : va_P E.1 vwCl [(x, .inr (7, [.ref ms, .ref mp, .int (nI (rcS pz)), .ref mt, .int (nI len), .ref md, .int (nI sp), .int q1, .int q2, .int q3, .int q4, .int q5, .int (nI fm)])), (ms, .inl (E.2.1, 265, .inl (fun zz => nI ((va_up (va_up (frS M (M 0) (g - 1)) (9 + 3 * (g - 1) + 0) y) (9 + 3 * (g - 1) + 1) h) zz)))), (mp, .inl (E.2.1, 1060, .inl (fun zz => nI ((rcP Pa M pz) zz)))), (md, .inl (E.2.1, 4, .inl (fun zz => nI ((sdL M Sd 4) zz))))] _ := hP
                  have hD : va_D AZ [(x, .inr (7, [.ref ms, .ref mp, .int (nI (rcS pz)), .ref mt, .int (nI len), .ref md, .int (nI sp), .int q1, .int q2, .int q3, .int q4, .int q5, .int (nI fm)])), (ms, .inl (E.2.1, 265, .inl (fun zz => nI ((va_up (va_up (frS M (M 0) (g - 1)) (9 + 3 * (g - 1) + 0) y) (9 + 3 * (g - 1) + 1) h) zz)))), (mp, .inl (E.2.1, 1060, .inl (fun zz => nI ((rcP Pa M pz) zz)))), (md, .inl (E.2.1, 4, .inl (fun zz => nI ((sdL M Sd 4) zz))))] := hD
                  refine lv_aload_n hx hb dX7_fret_142 rfl (lv_at hl 1 rfl) ?_
                  refine lv_iload_n hx hb dX7_fret_143 rfl (lv_at hl 0 rfl) ?_
                  refine lv_iconst (v := nI 2) hx hb dX7_fret_144 (by decide) ?_
                  refine lv_iconst (v := nI 0) hx hb dX7_fret_145 (by decide) ?_
                  have hPc := zP_sub (w := [(x, .inr (7, [.ref ms, .ref mp, .int (nI (rcS pz)), .ref mt, .int (nI len), .ref md, .int (nI sp), .int q1, .int q2, .int q3, .int q4, .int q5, .int (nI fm)])), (ms, .inl (E.2.1, 265, .inl (fun zz => nI ((va_up (va_up (frS M (M 0) (g - 1)) (9 + 3 * (g - 1) + 0) y) (9 + 3 * (g - 1) + 1) h) zz))))]) hP [0, 1] rfl
                  have hDc := zD_sub (w := [(x, .inr (7, [.ref ms, .ref mp, .int (nI (rcS pz)), .ref mt, .int (nI len), .ref md, .int (nI sp), .int q1, .int q2, .int q3, .int q4, .int q5, .int (nI fm)])), (ms, .inl (E.2.1, 265, .inl (fun zz => nI ((va_up (va_up (frS M (M 0) (g - 1)) (9 + 3 * (g - 1) + 0) y) (9 + 3 * (g - 1) + 1) h) zz))))]) hD [0, 1] (by decide) rfl
                  refine z_vd [0, 1] (va_runV (As := [.int (nI g), .int (nI 2), .int (nI 0)]) (rest := []) hF (c_X7_lays l E x ms mp mt md (rcS pz) len sp fm g 2 0 q1 q2 q3 q4 q5 (va_up (va_up (frS M (M 0) (g - 1)) (9 + 3 * (g - 1) + 0) y) (9 + 3 * (g - 1) + 1) h) (by first | assumption | omega) (by first | assumption | omega) (by first | assumption | omega)) (cwV 3 hts gX7_fret_X7_lays rfl rfl rfl (by decide +kernel) ⟨Nat.le_of_ble_eq_true rfl, Nat.le_of_ble_eq_true rfl⟩) (z_preMV (va_recv hG.1 hP (ci := 7) (q0 := 0) rfl rfl) hPc hDc hG) rfl rfl hl.1 rfl (lv_room (Nat.le_of_ble_eq_true rfl)) dX7_fret_146 ⟨Nat.zero_le _, Nat.zero_le _⟩) hP hD hS rfl (fun w' HZ locsZ hw hP hD hS => ?_)
                  subst hw
                  have hP : va_P E.1 vwCl [(x, .inr (7, [.ref ms, .ref mp, .int (nI (rcS pz)), .ref mt, .int (nI len), .ref md, .int (nI sp), .int q1, .int q2, .int q3, .int q4, .int q5, .int (nI fm)])), (ms, .inl (E.2.1, 265, .inl (fun zz => nI ((va_up (va_up (va_up (frS M (M 0) (g - 1)) (9 + 3 * (g - 1) + 0) y) (9 + 3 * (g - 1) + 1) h) (9 + 3 * (g - 1) + 2) 0) zz)))), (mp, .inl (E.2.1, 1060, .inl (fun zz => nI ((rcP Pa M pz) zz)))), (md, .inl (E.2.1, 4, .inl (fun zz => nI ((sdL M Sd 4) zz))))] _ := hP
                  have hD : va_D AZ [(x, .inr (7, [.ref ms, .ref mp, .int (nI (rcS pz)), .ref mt, .int (nI len), .ref md, .int (nI sp), .int q1, .int q2, .int q3, .int q4, .int q5, .int (nI fm)])), (ms, .inl (E.2.1, 265, .inl (fun zz => nI ((va_up (va_up (va_up (frS M (M 0) (g - 1)) (9 + 3 * (g - 1) + 0) y) (9 + 3 * (g - 1) + 1) h) (9 + 3 * (g - 1) + 2) 0) zz)))), (mp, .inl (E.2.1, 1060, .inl (fun zz => nI ((rcP Pa M pz) zz)))), (md, .inl (E.2.1, 4, .inl (fun zz => nI ((sdL M Sd 4) zz))))] := hD
                  have e26 : (va_up (va_up (va_up (frS M (M 0) (g - 1)) (9 + 3 * (g - 1) + 0) y) (9 + 3 * (g - 1) + 1) h) (9 + 3 * (g - 1) + 2) 0 : Nat → Nat) = frI M (M 0) (insI (mP M) y (M 0)) y h := by first | rfl | (rw [hkk]; rfl)
                  have hP : va_P E.1 vwCl [(x, .inr (7, [.ref ms, .ref mp, .int (nI (rcS pz)), .ref mt, .int (nI len), .ref md, .int (nI sp), .int q1, .int q2, .int q3, .int q4, .int q5, .int (nI fm)])), (ms, .inl (E.2.1, 265, .inl (fun zz => nI ((frI M (M 0) (insI (mP M) y (M 0)) y h) zz)))), (mp, .inl (E.2.1, 1060, .inl (fun zz => nI ((rcP Pa M pz) zz)))), (md, .inl (E.2.1, 4, .inl (fun zz => nI ((sdL M Sd 4) zz))))] HZ := Eq.subst (motive := fun XX : Nat → Nat => va_P E.1 vwCl [(x, .inr (7, [.ref ms, .ref mp, .int (nI (rcS pz)), .ref mt, .int (nI len), .ref md, .int (nI sp), .int q1, .int q2, .int q3, .int q4, .int q5, .int (nI fm)])), (ms, .inl (E.2.1, 265, .inl (fun zz => nI (XX zz)))), (mp, .inl (E.2.1, 1060, .inl (fun zz => nI ((rcP Pa M pz) zz)))), (md, .inl (E.2.1, 4, .inl (fun zz => nI ((sdL M Sd 4) zz))))] HZ) e26 hP
                  have hD : va_D AZ [(x, .inr (7, [.ref ms, .ref mp, .int (nI (rcS pz)), .ref mt, .int (nI len), .ref md, .int (nI sp), .int q1, .int q2, .int q3, .int q4, .int q5, .int (nI fm)])), (ms, .inl (E.2.1, 265, .inl (fun zz => nI ((frI M (M 0) (insI (mP M) y (M 0)) y h) zz)))), (mp, .inl (E.2.1, 1060, .inl (fun zz => nI ((rcP Pa M pz) zz)))), (md, .inl (E.2.1, 4, .inl (fun zz => nI ((sdL M Sd 4) zz))))] := Eq.subst (motive := fun XX : Nat → Nat => va_D AZ [(x, .inr (7, [.ref ms, .ref mp, .int (nI (rcS pz)), .ref mt, .int (nI len), .ref md, .int (nI sp), .int q1, .int q2, .int q3, .int q4, .int q5, .int (nI fm)])), (ms, .inl (E.2.1, 265, .inl (fun zz => nI (XX zz)))), (mp, .inl (E.2.1, 1060, .inl (fun zz => nI ((rcP Pa M pz) zz)))), (md, .inl (E.2.1, 4, .inl (fun zz => nI ((sdL M Sd 4) zz))))]) e26 hD
                  refine lv_iconst (v := nI 0) hx hb dX7_fret_149 (by decide) ?_
                  refine lv_istore (lv' := [(4, .int (nI 0)), (3, .int (nI g)), (0, .ref x), (1, .int (nI y)), (2, .int (nI h))]) hx hb dX7_fret_150 hl (by decide) rfl (fun ls hl => ?_)
                  have L152_27 : ∀ (fuelZ : Nat) (t : Nat), 4 - t < fuelZ → (t ≤ 4) → ∀ (HZ : Heap) (locsZ : List Loc), va_P E.1 vwCl [(x, .inr (7, [.ref ms, .ref mp, .int (nI (rcS pz)), .ref mt, .int (nI len), .ref md, .int (nI sp), .int q1, .int q2, .int q3, .int q4, .int q5, .int (nI fm)])), (ms, .inl (E.2.1, 265, .inl (fun zz => nI ((mrM (frI M (M 0) (insI (mP M) y (M 0)) y h) (insI (mP M) y (M 0) + 1) t) zz)))), (mp, .inl (E.2.1, 1060, .inl (fun zz => nI ((rcP Pa M pz) zz)))), (md, .inl (E.2.1, 4, .inl (fun zz => nI ((sdL M Sd 4) zz))))] HZ → va_D AZ [(x, .inr (7, [.ref ms, .ref mp, .int (nI (rcS pz)), .ref mt, .int (nI len), .ref md, .int (nI sp), .int q1, .int q2, .int q3, .int q4, .int q5, .int (nI fm)])), (ms, .inl (E.2.1, 265, .inl (fun zz => nI ((mrM (frI M (M 0) (insI (mP M) y (M 0)) y h) (insI (mP M) y (M 0) + 1) t) zz)))), (mp, .inl (E.2.1, 1060, .inl (fun zz => nI ((rcP Pa M pz) zz)))), (md, .inl (E.2.1, 4, .inl (fun zz => nI ((sdL M Sd 4) zz))))] → va_S AZ sZ.heap HZ locsZ → ∀ ls : Array Slot, lv_has ls 5 [(4, .int (nI t)), (3, .int (nI g)), (0, .ref x), (1, .int (nI y)), (2, .int (nI h))] → W pZ l eZ ({ frames := 6, cells := 0, slots := 0, locals := 135 }) sZ mZ argsZ belowZ methZ cZ HZ locsZ 0 0 QZ (F0 mZ 152 ls []) := by
                    intro fuelZ
                    induction fuelZ with
                    | zero => intro t hm; exact absurd hm (Nat.not_lt_zero _)
                    | succ fuelZ ih152 =>
                      intro t hm k0 HZ locsZ hP hD hS ls hl
                      refine lv_iload hx hb dX7_fret_152 (lv_at hl 0 rfl) ?_
                      refine lv_iconst (v := nI 4) hx hb dX7_fret_154 (by decide) ?_
                      refine z_icmp_ge (a := t) (b := 4) (tgt := 195) hx hb dX7_fret_155 (by decide) (by omega) (by omega) (fun c28 => ?_) (fun c28 => ?_)
                      · -- 155 t
                        have e29 : (mrM (frI M (M 0) (insI (mP M) y (M 0)) y h) (insI (mP M) y (M 0) + 1) t : Nat → Nat) = frM M y h := by first | rfl | (rw [show t = 4 by omega]; rfl)
                        have hP : va_P E.1 vwCl [(x, .inr (7, [.ref ms, .ref mp, .int (nI (rcS pz)), .ref mt, .int (nI len), .ref md, .int (nI sp), .int q1, .int q2, .int q3, .int q4, .int q5, .int (nI fm)])), (ms, .inl (E.2.1, 265, .inl (fun zz => nI ((frM M y h) zz)))), (mp, .inl (E.2.1, 1060, .inl (fun zz => nI ((rcP Pa M pz) zz)))), (md, .inl (E.2.1, 4, .inl (fun zz => nI ((sdL M Sd 4) zz))))] HZ := Eq.subst (motive := fun XX : Nat → Nat => va_P E.1 vwCl [(x, .inr (7, [.ref ms, .ref mp, .int (nI (rcS pz)), .ref mt, .int (nI len), .ref md, .int (nI sp), .int q1, .int q2, .int q3, .int q4, .int q5, .int (nI fm)])), (ms, .inl (E.2.1, 265, .inl (fun zz => nI (XX zz)))), (mp, .inl (E.2.1, 1060, .inl (fun zz => nI ((rcP Pa M pz) zz)))), (md, .inl (E.2.1, 4, .inl (fun zz => nI ((sdL M Sd 4) zz))))] HZ) e29 hP
                        have hD : va_D AZ [(x, .inr (7, [.ref ms, .ref mp, .int (nI (rcS pz)), .ref mt, .int (nI len), .ref md, .int (nI sp), .int q1, .int q2, .int q3, .int q4, .int q5, .int (nI fm)])), (ms, .inl (E.2.1, 265, .inl (fun zz => nI ((frM M y h) zz)))), (mp, .inl (E.2.1, 1060, .inl (fun zz => nI ((rcP Pa M pz) zz)))), (md, .inl (E.2.1, 4, .inl (fun zz => nI ((sdL M Sd 4) zz))))] := Eq.subst (motive := fun XX : Nat → Nat => va_D AZ [(x, .inr (7, [.ref ms, .ref mp, .int (nI (rcS pz)), .ref mt, .int (nI len), .ref md, .int (nI sp), .int q1, .int q2, .int q3, .int q4, .int q5, .int (nI fm)])), (ms, .inl (E.2.1, 265, .inl (fun zz => nI (XX zz)))), (mp, .inl (E.2.1, 1060, .inl (fun zz => nI ((rcP Pa M pz) zz)))), (md, .inl (E.2.1, 4, .inl (fun zz => nI ((sdL M Sd 4) zz))))]) e29 hD
                        refine lv_aload_n hx hb dX7_fret_195 rfl (lv_at hl 2 rfl) ?_
                        have hPc := zP_sub (w := [(x, .inr (7, [.ref ms, .ref mp, .int (nI (rcS pz)), .ref mt, .int (nI len), .ref md, .int (nI sp), .int q1, .int q2, .int q3, .int q4, .int q5, .int (nI fm)])), (ms, .inl (E.2.1, 265, .inl (fun zz => nI ((frM M y h) zz)))), (md, .inl (E.2.1, 4, .inl (fun zz => nI ((sdL M Sd 4) zz))))]) hP [0, 1, 3] rfl
                        have hDc := zD_sub (w := [(x, .inr (7, [.ref ms, .ref mp, .int (nI (rcS pz)), .ref mt, .int (nI len), .ref md, .int (nI sp), .int q1, .int q2, .int q3, .int q4, .int q5, .int (nI fm)])), (ms, .inl (E.2.1, 265, .inl (fun zz => nI ((frM M y h) zz)))), (md, .inl (E.2.1, 4, .inl (fun zz => nI ((sdL M Sd 4) zz))))]) hD [0, 1, 3] (by decide) rfl
                        refine z_vd [0, 1, 3] (va_runV (As := []) (rest := []) hF (c_X7_moved l E x ms mp mt md (rcS pz) len sp fm q1 q2 q3 q4 q5 (frM M y h) (sdL M Sd 4) (hk1.1) (hk1.2.1) (hk1.2.2.1) (hk1.2.2.2) (sd_le hk0)) (cwV 0 hts gX7_fret_X7_moved rfl rfl rfl (by decide +kernel) ⟨Nat.le_of_ble_eq_true rfl, Nat.le_of_ble_eq_true rfl⟩) (z_preMV (va_recv hG.1 hP (ci := 7) (q0 := 0) rfl rfl) hPc hDc hG) rfl rfl hl.1 rfl (lv_room (Nat.le_of_ble_eq_true rfl)) dX7_fret_196 ⟨Nat.zero_le _, Nat.zero_le _⟩) hP hD hS rfl (fun w' HZ locsZ hw hP hD hS => ?_)
                        subst hw
                        have hP : va_P E.1 vwCl [(x, .inr (7, [.ref ms, .ref mp, .int (nI (rcS pz)), .ref mt, .int (nI len), .ref md, .int (nI sp), .int q1, .int q2, .int q3, .int q4, .int q5, .int (nI fm)])), (ms, .inl (E.2.1, 265, .inl (fun zz => nI ((mvL (frM M y h) (sdL M Sd 4) 4) zz)))), (mp, .inl (E.2.1, 1060, .inl (fun zz => nI ((rcP Pa M pz) zz)))), (md, .inl (E.2.1, 4, .inl (fun zz => nI ((sdL M Sd 4) zz))))] _ := hP
                        have hD : va_D AZ [(x, .inr (7, [.ref ms, .ref mp, .int (nI (rcS pz)), .ref mt, .int (nI len), .ref md, .int (nI sp), .int q1, .int q2, .int q3, .int q4, .int q5, .int (nI fm)])), (ms, .inl (E.2.1, 265, .inl (fun zz => nI ((mvL (frM M y h) (sdL M Sd 4) 4) zz)))), (mp, .inl (E.2.1, 1060, .inl (fun zz => nI ((rcP Pa M pz) zz)))), (md, .inl (E.2.1, 4, .inl (fun zz => nI ((sdL M Sd 4) zz))))] := hD
                        refine lv_iload_n hx hb dX7_fret_199 rfl (lv_at hl 1 rfl) ?_
                        exact hret _ _ _ _ _ _ hP hS dX7_fret_200 rfl (Or.inr (Or.inr (Or.inr (⟨y, h, by first | rfl | (congr 1; omega), ⟨rfl, rfl, by omega, by omega, by omega, hnt, hlt⟩, rfl⟩))))
                      · -- 155 f
                        refine lv_aload_n hx hb dX7_fret_158 rfl (lv_at hl 2 rfl) ?_
                        refine lv_iload hx hb dX7_fret_159 (lv_at hl 0 rfl) ?_
                        refine lv_iconst (v := nI 1) hx hb dX7_fret_161 (by decide) ?_
                        refine lv_aload_n hx hb dX7_fret_162 rfl (lv_at hl 2 rfl) ?_
                        refine lv_iload hx hb dX7_fret_163 (lv_at hl 0 rfl) ?_
                        refine lv_iconst (v := nI 1) hx hb dX7_fret_165 (by decide) ?_
                        have hPc := zP_sub (w := [(x, .inr (7, [.ref ms, .ref mp, .int (nI (rcS pz)), .ref mt, .int (nI len), .ref md, .int (nI sp), .int q1, .int q2, .int q3, .int q4, .int q5, .int (nI fm)])), (ms, .inl (E.2.1, 265, .inl (fun zz => nI ((mrM (frI M (M 0) (insI (mP M) y (M 0)) y h) (insI (mP M) y (M 0) + 1) t) zz))))]) hP [0, 1] rfl
                        refine z_rd (fun _ h => h) (va_runV (As := [.int (nI t), .int (nI 1)]) (rest := [.int (nI 1), .int (nI t), .ref x]) hF (c_X7_of l E x ms mp mt md (rcS pz) len sp fm t 1 q1 q2 q3 q4 q5 (mrM (frI M (M 0) (insI (mP M) y (M 0)) y h) (insI (mP M) y (M 0) + 1) t) (by first | assumption | omega) (by first | assumption | omega)) (cwV 2 hts gX7_fret_X7_of rfl rfl rfl (by decide +kernel) ⟨Nat.le_of_ble_eq_true rfl, Nat.le_of_ble_eq_true rfl⟩) (z_preRV (va_recv hG.1 hP (ci := 7) (q0 := 0) rfl rfl) hPc hG) rfl rfl hl.1 rfl (lv_room (Nat.le_of_ble_eq_true rfl)) dX7_fret_166 ⟨Nat.zero_le _, Nat.zero_le _⟩) (fun r31 hr31 => ?_)
                        subst hr31
                        have e32 : (mrM (frI M (M 0) (insI (mP M) y (M 0)) y h) (insI (mP M) y (M 0) + 1) t) (45 + 4 * t + 1) = M (45 + 4 * t + 1) := by rw [mrM_at, frI_pr hkl hlt (by omega)]
                        rw [e32]
                        refine lv_aload_n hx hb dX7_fret_169 rfl (lv_at hl 2 rfl) ?_
                        refine lv_iload hx hb dX7_fret_170 (lv_at hl 0 rfl) ?_
                        refine lv_iconst (v := nI 1) hx hb dX7_fret_172 (by decide) ?_
                        have hPc := zP_sub (w := [(x, .inr (7, [.ref ms, .ref mp, .int (nI (rcS pz)), .ref mt, .int (nI len), .ref md, .int (nI sp), .int q1, .int q2, .int q3, .int q4, .int q5, .int (nI fm)])), (ms, .inl (E.2.1, 265, .inl (fun zz => nI ((mrM (frI M (M 0) (insI (mP M) y (M 0)) y h) (insI (mP M) y (M 0) + 1) t) zz))))]) hP [0, 1] rfl
                        refine z_rd (fun _ h => h) (va_runV (As := [.int (nI t), .int (nI 1)]) (rest := [.int (nI (M (45 + 4 * t + 1))), .int (nI 1), .int (nI t), .ref x]) hF (c_X7_of l E x ms mp mt md (rcS pz) len sp fm t 1 q1 q2 q3 q4 q5 (mrM (frI M (M 0) (insI (mP M) y (M 0)) y h) (insI (mP M) y (M 0) + 1) t) (by first | assumption | omega) (by first | assumption | omega)) (cwV 2 hts gX7_fret_X7_of rfl rfl rfl (by decide +kernel) ⟨Nat.le_of_ble_eq_true rfl, Nat.le_of_ble_eq_true rfl⟩) (z_preRV (va_recv hG.1 hP (ci := 7) (q0 := 0) rfl rfl) hPc hG) rfl rfl hl.1 rfl (lv_room (Nat.le_of_ble_eq_true rfl)) dX7_fret_173 ⟨Nat.zero_le _, Nat.zero_le _⟩) (fun r33 hr33 => ?_)
                        subst hr33
                        have e34 : (mrM (frI M (M 0) (insI (mP M) y (M 0)) y h) (insI (mP M) y (M 0) + 1) t) (45 + 4 * t + 1) = M (45 + 4 * t + 1) := by rw [mrM_at, frI_pr hkl hlt (by omega)]
                        rw [e34]
                        refine lv_iload_n hx hb dX7_fret_176 rfl (lv_at hl 1 rfl) ?_
                        have hpq := hprn t (by omega)
                        unfold mPr at hpq
                        refine z_icmp_lt (a := M (45 + 4 * t + 1)) (b := g) (tgt := 184) hx hb dX7_fret_177 (by decide) (by omega) (by omega) (fun c35 => ?_) (fun c35 => ?_)
                        · -- 177 t
                          refine lv_iconst (v := nI 0) hx hb dX7_fret_184 (by decide) ?_
                          refine z_iadd (a := M (45 + 4 * t + 1)) (b := 0) hx hb dX7_fret_185 ?_
                          have hPc := zP_sub (w := [(x, .inr (7, [.ref ms, .ref mp, .int (nI (rcS pz)), .ref mt, .int (nI len), .ref md, .int (nI sp), .int q1, .int q2, .int q3, .int q4, .int q5, .int (nI fm)])), (ms, .inl (E.2.1, 265, .inl (fun zz => nI ((mrM (frI M (M 0) (insI (mP M) y (M 0)) y h) (insI (mP M) y (M 0) + 1) t) zz))))]) hP [0, 1] rfl
                          have hDc := zD_sub (w := [(x, .inr (7, [.ref ms, .ref mp, .int (nI (rcS pz)), .ref mt, .int (nI len), .ref md, .int (nI sp), .int q1, .int q2, .int q3, .int q4, .int q5, .int (nI fm)])), (ms, .inl (E.2.1, 265, .inl (fun zz => nI ((mrM (frI M (M 0) (insI (mP M) y (M 0)) y h) (insI (mP M) y (M 0) + 1) t) zz))))]) hD [0, 1] (by decide) rfl
                          refine z_vd [0, 1] (va_runV (As := [.int (nI t), .int (nI 1), .int (nI ((M (45 + 4 * t + 1)) + 0))]) (rest := []) hF (c_X7_puts l E x ms mp mt md (rcS pz) len sp fm t 1 ((M (45 + 4 * t + 1)) + 0) q1 q2 q3 q4 q5 (mrM (frI M (M 0) (insI (mP M) y (M 0)) y h) (insI (mP M) y (M 0) + 1) t) (by first | assumption | omega) (by first | assumption | omega)) (cwV 3 hts gX7_fret_X7_puts rfl rfl rfl (by decide +kernel) ⟨Nat.le_of_ble_eq_true rfl, Nat.le_of_ble_eq_true rfl⟩) (z_preMV (va_recv hG.1 hP (ci := 7) (q0 := 0) rfl rfl) hPc hDc hG) rfl rfl hl.1 rfl (lv_room (Nat.le_of_ble_eq_true rfl)) dX7_fret_186 ⟨Nat.zero_le _, Nat.zero_le _⟩) hP hD hS rfl (fun w' HZ locsZ hw hP hD hS => ?_)
                          subst hw
                          have hP : va_P E.1 vwCl [(x, .inr (7, [.ref ms, .ref mp, .int (nI (rcS pz)), .ref mt, .int (nI len), .ref md, .int (nI sp), .int q1, .int q2, .int q3, .int q4, .int q5, .int (nI fm)])), (ms, .inl (E.2.1, 265, .inl (fun zz => nI ((va_up (mrM (frI M (M 0) (insI (mP M) y (M 0)) y h) (insI (mP M) y (M 0) + 1) t) (45 + 4 * t + 1) ((M (45 + 4 * t + 1)) + 0)) zz)))), (mp, .inl (E.2.1, 1060, .inl (fun zz => nI ((rcP Pa M pz) zz)))), (md, .inl (E.2.1, 4, .inl (fun zz => nI ((sdL M Sd 4) zz))))] _ := hP
                          have hD : va_D AZ [(x, .inr (7, [.ref ms, .ref mp, .int (nI (rcS pz)), .ref mt, .int (nI len), .ref md, .int (nI sp), .int q1, .int q2, .int q3, .int q4, .int q5, .int (nI fm)])), (ms, .inl (E.2.1, 265, .inl (fun zz => nI ((va_up (mrM (frI M (M 0) (insI (mP M) y (M 0)) y h) (insI (mP M) y (M 0) + 1) t) (45 + 4 * t + 1) ((M (45 + 4 * t + 1)) + 0)) zz)))), (mp, .inl (E.2.1, 1060, .inl (fun zz => nI ((rcP Pa M pz) zz)))), (md, .inl (E.2.1, 4, .inl (fun zz => nI ((sdL M Sd 4) zz))))] := hD
                          refine z_iinc (k := 0) (d := 1) (lv' := [(4, .int (nI (t + 1))), (3, .int (nI g)), (0, .ref x), (1, .int (nI y)), (2, .int (nI h))]) hx hb dX7_fret_189 (by decide) hl rfl (by decide) rfl (fun ls hl => ?_)
                          refine lv_goto (tgt := 152) hx hb dX7_fret_192 (by decide) ?_
                          have e36 : (va_up (mrM (frI M (M 0) (insI (mP M) y (M 0)) y h) (insI (mP M) y (M 0) + 1) t) (45 + 4 * t + 1) ((M (45 + 4 * t + 1)) + 0) : Nat → Nat) = mrM (frI M (M 0) (insI (mP M) y (M 0)) y h) (insI (mP M) y (M 0) + 1) (t + 1) := by first | rfl | (exact mrM_s (by rw [frI_pr hkl hlt (by omega)]; first | (rw [if_pos (by omega)] <;> rfl) | (rw [if_neg (by omega)] <;> rfl)))
                          have hP : va_P E.1 vwCl [(x, .inr (7, [.ref ms, .ref mp, .int (nI (rcS pz)), .ref mt, .int (nI len), .ref md, .int (nI sp), .int q1, .int q2, .int q3, .int q4, .int q5, .int (nI fm)])), (ms, .inl (E.2.1, 265, .inl (fun zz => nI ((mrM (frI M (M 0) (insI (mP M) y (M 0)) y h) (insI (mP M) y (M 0) + 1) (t + 1)) zz)))), (mp, .inl (E.2.1, 1060, .inl (fun zz => nI ((rcP Pa M pz) zz)))), (md, .inl (E.2.1, 4, .inl (fun zz => nI ((sdL M Sd 4) zz))))] HZ := Eq.subst (motive := fun XX : Nat → Nat => va_P E.1 vwCl [(x, .inr (7, [.ref ms, .ref mp, .int (nI (rcS pz)), .ref mt, .int (nI len), .ref md, .int (nI sp), .int q1, .int q2, .int q3, .int q4, .int q5, .int (nI fm)])), (ms, .inl (E.2.1, 265, .inl (fun zz => nI (XX zz)))), (mp, .inl (E.2.1, 1060, .inl (fun zz => nI ((rcP Pa M pz) zz)))), (md, .inl (E.2.1, 4, .inl (fun zz => nI ((sdL M Sd 4) zz))))] HZ) e36 hP
                          have hD : va_D AZ [(x, .inr (7, [.ref ms, .ref mp, .int (nI (rcS pz)), .ref mt, .int (nI len), .ref md, .int (nI sp), .int q1, .int q2, .int q3, .int q4, .int q5, .int (nI fm)])), (ms, .inl (E.2.1, 265, .inl (fun zz => nI ((mrM (frI M (M 0) (insI (mP M) y (M 0)) y h) (insI (mP M) y (M 0) + 1) (t + 1)) zz)))), (mp, .inl (E.2.1, 1060, .inl (fun zz => nI ((rcP Pa M pz) zz)))), (md, .inl (E.2.1, 4, .inl (fun zz => nI ((sdL M Sd 4) zz))))] := Eq.subst (motive := fun XX : Nat → Nat => va_D AZ [(x, .inr (7, [.ref ms, .ref mp, .int (nI (rcS pz)), .ref mt, .int (nI len), .ref md, .int (nI sp), .int q1, .int q2, .int q3, .int q4, .int q5, .int (nI fm)])), (ms, .inl (E.2.1, 265, .inl (fun zz => nI (XX zz)))), (mp, .inl (E.2.1, 1060, .inl (fun zz => nI ((rcP Pa M pz) zz)))), (md, .inl (E.2.1, 4, .inl (fun zz => nI ((sdL M Sd 4) zz))))]) e36 hD
                          exact ih152 (t + 1) (by omega) (by omega) _ _ hP hD hS _ (lv_sub hl [0, 1, 2, 3, 4] rfl)
                        · -- 177 f
                          refine lv_iconst (v := nI 1) hx hb dX7_fret_180 (by decide) ?_
                          refine lv_goto (tgt := 185) hx hb dX7_fret_181 (by decide) ?_
                          refine z_iadd (a := M (45 + 4 * t + 1)) (b := 1) hx hb dX7_fret_185 ?_
                          have hPc := zP_sub (w := [(x, .inr (7, [.ref ms, .ref mp, .int (nI (rcS pz)), .ref mt, .int (nI len), .ref md, .int (nI sp), .int q1, .int q2, .int q3, .int q4, .int q5, .int (nI fm)])), (ms, .inl (E.2.1, 265, .inl (fun zz => nI ((mrM (frI M (M 0) (insI (mP M) y (M 0)) y h) (insI (mP M) y (M 0) + 1) t) zz))))]) hP [0, 1] rfl
                          have hDc := zD_sub (w := [(x, .inr (7, [.ref ms, .ref mp, .int (nI (rcS pz)), .ref mt, .int (nI len), .ref md, .int (nI sp), .int q1, .int q2, .int q3, .int q4, .int q5, .int (nI fm)])), (ms, .inl (E.2.1, 265, .inl (fun zz => nI ((mrM (frI M (M 0) (insI (mP M) y (M 0)) y h) (insI (mP M) y (M 0) + 1) t) zz))))]) hD [0, 1] (by decide) rfl
                          refine z_vd [0, 1] (va_runV (As := [.int (nI t), .int (nI 1), .int (nI ((M (45 + 4 * t + 1)) + 1))]) (rest := []) hF (c_X7_puts l E x ms mp mt md (rcS pz) len sp fm t 1 ((M (45 + 4 * t + 1)) + 1) q1 q2 q3 q4 q5 (mrM (frI M (M 0) (insI (mP M) y (M 0)) y h) (insI (mP M) y (M 0) + 1) t) (by first | assumption | omega) (by first | assumption | omega)) (cwV 3 hts gX7_fret_X7_puts rfl rfl rfl (by decide +kernel) ⟨Nat.le_of_ble_eq_true rfl, Nat.le_of_ble_eq_true rfl⟩) (z_preMV (va_recv hG.1 hP (ci := 7) (q0 := 0) rfl rfl) hPc hDc hG) rfl rfl hl.1 rfl (lv_room (Nat.le_of_ble_eq_true rfl)) dX7_fret_186 ⟨Nat.zero_le _, Nat.zero_le _⟩) hP hD hS rfl (fun w' HZ locsZ hw hP hD hS => ?_)
                          subst hw
                          have hP : va_P E.1 vwCl [(x, .inr (7, [.ref ms, .ref mp, .int (nI (rcS pz)), .ref mt, .int (nI len), .ref md, .int (nI sp), .int q1, .int q2, .int q3, .int q4, .int q5, .int (nI fm)])), (ms, .inl (E.2.1, 265, .inl (fun zz => nI ((va_up (mrM (frI M (M 0) (insI (mP M) y (M 0)) y h) (insI (mP M) y (M 0) + 1) t) (45 + 4 * t + 1) ((M (45 + 4 * t + 1)) + 1)) zz)))), (mp, .inl (E.2.1, 1060, .inl (fun zz => nI ((rcP Pa M pz) zz)))), (md, .inl (E.2.1, 4, .inl (fun zz => nI ((sdL M Sd 4) zz))))] _ := hP
                          have hD : va_D AZ [(x, .inr (7, [.ref ms, .ref mp, .int (nI (rcS pz)), .ref mt, .int (nI len), .ref md, .int (nI sp), .int q1, .int q2, .int q3, .int q4, .int q5, .int (nI fm)])), (ms, .inl (E.2.1, 265, .inl (fun zz => nI ((va_up (mrM (frI M (M 0) (insI (mP M) y (M 0)) y h) (insI (mP M) y (M 0) + 1) t) (45 + 4 * t + 1) ((M (45 + 4 * t + 1)) + 1)) zz)))), (mp, .inl (E.2.1, 1060, .inl (fun zz => nI ((rcP Pa M pz) zz)))), (md, .inl (E.2.1, 4, .inl (fun zz => nI ((sdL M Sd 4) zz))))] := hD
                          refine z_iinc (k := 0) (d := 1) (lv' := [(4, .int (nI (t + 1))), (3, .int (nI g)), (0, .ref x), (1, .int (nI y)), (2, .int (nI h))]) hx hb dX7_fret_189 (by decide) hl rfl (by decide) rfl (fun ls hl => ?_)
                          refine lv_goto (tgt := 152) hx hb dX7_fret_192 (by decide) ?_
                          have e37 : (va_up (mrM (frI M (M 0) (insI (mP M) y (M 0)) y h) (insI (mP M) y (M 0) + 1) t) (45 + 4 * t + 1) ((M (45 + 4 * t + 1)) + 1) : Nat → Nat) = mrM (frI M (M 0) (insI (mP M) y (M 0)) y h) (insI (mP M) y (M 0) + 1) (t + 1) := by first | rfl | (exact mrM_s (by rw [frI_pr hkl hlt (by omega)]; first | (rw [if_pos (by omega)] <;> rfl) | (rw [if_neg (by omega)] <;> rfl)))
                          have hP : va_P E.1 vwCl [(x, .inr (7, [.ref ms, .ref mp, .int (nI (rcS pz)), .ref mt, .int (nI len), .ref md, .int (nI sp), .int q1, .int q2, .int q3, .int q4, .int q5, .int (nI fm)])), (ms, .inl (E.2.1, 265, .inl (fun zz => nI ((mrM (frI M (M 0) (insI (mP M) y (M 0)) y h) (insI (mP M) y (M 0) + 1) (t + 1)) zz)))), (mp, .inl (E.2.1, 1060, .inl (fun zz => nI ((rcP Pa M pz) zz)))), (md, .inl (E.2.1, 4, .inl (fun zz => nI ((sdL M Sd 4) zz))))] HZ := Eq.subst (motive := fun XX : Nat → Nat => va_P E.1 vwCl [(x, .inr (7, [.ref ms, .ref mp, .int (nI (rcS pz)), .ref mt, .int (nI len), .ref md, .int (nI sp), .int q1, .int q2, .int q3, .int q4, .int q5, .int (nI fm)])), (ms, .inl (E.2.1, 265, .inl (fun zz => nI (XX zz)))), (mp, .inl (E.2.1, 1060, .inl (fun zz => nI ((rcP Pa M pz) zz)))), (md, .inl (E.2.1, 4, .inl (fun zz => nI ((sdL M Sd 4) zz))))] HZ) e37 hP
                          have hD : va_D AZ [(x, .inr (7, [.ref ms, .ref mp, .int (nI (rcS pz)), .ref mt, .int (nI len), .ref md, .int (nI sp), .int q1, .int q2, .int q3, .int q4, .int q5, .int (nI fm)])), (ms, .inl (E.2.1, 265, .inl (fun zz => nI ((mrM (frI M (M 0) (insI (mP M) y (M 0)) y h) (insI (mP M) y (M 0) + 1) (t + 1)) zz)))), (mp, .inl (E.2.1, 1060, .inl (fun zz => nI ((rcP Pa M pz) zz)))), (md, .inl (E.2.1, 4, .inl (fun zz => nI ((sdL M Sd 4) zz))))] := Eq.subst (motive := fun XX : Nat → Nat => va_D AZ [(x, .inr (7, [.ref ms, .ref mp, .int (nI (rcS pz)), .ref mt, .int (nI len), .ref md, .int (nI sp), .int q1, .int q2, .int q3, .int q4, .int q5, .int (nI fm)])), (ms, .inl (E.2.1, 265, .inl (fun zz => nI (XX zz)))), (mp, .inl (E.2.1, 1060, .inl (fun zz => nI ((rcP Pa M pz) zz)))), (md, .inl (E.2.1, 4, .inl (fun zz => nI ((sdL M Sd 4) zz))))]) e37 hD
                          exact ih152 (t + 1) (by omega) (by omega) _ _ hP hD hS _ (lv_sub hl [0, 1, 2, 3, 4] rfl)
                  have e38 : (frI M (M 0) (insI (mP M) y (M 0)) y h : Nat → Nat) = mrM (frI M (M 0) (insI (mP M) y (M 0)) y h) (insI (mP M) y (M 0) + 1) 0 := by first | rfl | (exact mrM_0 _ _)
                  have hP : va_P E.1 vwCl [(x, .inr (7, [.ref ms, .ref mp, .int (nI (rcS pz)), .ref mt, .int (nI len), .ref md, .int (nI sp), .int q1, .int q2, .int q3, .int q4, .int q5, .int (nI fm)])), (ms, .inl (E.2.1, 265, .inl (fun zz => nI ((mrM (frI M (M 0) (insI (mP M) y (M 0)) y h) (insI (mP M) y (M 0) + 1) 0) zz)))), (mp, .inl (E.2.1, 1060, .inl (fun zz => nI ((rcP Pa M pz) zz)))), (md, .inl (E.2.1, 4, .inl (fun zz => nI ((sdL M Sd 4) zz))))] HZ := Eq.subst (motive := fun XX : Nat → Nat => va_P E.1 vwCl [(x, .inr (7, [.ref ms, .ref mp, .int (nI (rcS pz)), .ref mt, .int (nI len), .ref md, .int (nI sp), .int q1, .int q2, .int q3, .int q4, .int q5, .int (nI fm)])), (ms, .inl (E.2.1, 265, .inl (fun zz => nI (XX zz)))), (mp, .inl (E.2.1, 1060, .inl (fun zz => nI ((rcP Pa M pz) zz)))), (md, .inl (E.2.1, 4, .inl (fun zz => nI ((sdL M Sd 4) zz))))] HZ) e38 hP
                  have hD : va_D AZ [(x, .inr (7, [.ref ms, .ref mp, .int (nI (rcS pz)), .ref mt, .int (nI len), .ref md, .int (nI sp), .int q1, .int q2, .int q3, .int q4, .int q5, .int (nI fm)])), (ms, .inl (E.2.1, 265, .inl (fun zz => nI ((mrM (frI M (M 0) (insI (mP M) y (M 0)) y h) (insI (mP M) y (M 0) + 1) 0) zz)))), (mp, .inl (E.2.1, 1060, .inl (fun zz => nI ((rcP Pa M pz) zz)))), (md, .inl (E.2.1, 4, .inl (fun zz => nI ((sdL M Sd 4) zz))))] := Eq.subst (motive := fun XX : Nat → Nat => va_D AZ [(x, .inr (7, [.ref ms, .ref mp, .int (nI (rcS pz)), .ref mt, .int (nI len), .ref md, .int (nI sp), .int q1, .int q2, .int q3, .int q4, .int q5, .int (nI fm)])), (ms, .inl (E.2.1, 265, .inl (fun zz => nI (XX zz)))), (mp, .inl (E.2.1, 1060, .inl (fun zz => nI ((rcP Pa M pz) zz)))), (md, .inl (E.2.1, 4, .inl (fun zz => nI ((sdL M Sd 4) zz))))]) e38 hD
                  exact L152_27 ((4 - 0) + 1) 0 (Nat.lt_succ_self _) (by omega) _ _ hP hD hS _ (lv_sub hl [0, 1, 2, 3, 4] rfl)
                · -- 88 f
                  have hss : insI (mP M) y (M 0) = insI (mP M) y (g - 1 - 1) := by rw [hI]; exact fr_b (by omega) (by omega)
                  refine lv_iconst (v := nI 0) hx hb dX7_fret_91 (by decide) ?_
                  refine lv_istore (lv' := [(4, .int (nI 0)), (3, .int (nI g)), (0, .ref x), (1, .int (nI y)), (2, .int (nI h))]) hx hb dX7_fret_92 hl (by decide) rfl (fun ls hl => ?_)
                  have L94_39 : ∀ (fuelZ : Nat) (w : Nat), 3 - w < fuelZ → (w ≤ 3) → ∀ (HZ : Heap) (locsZ : List Loc), va_P E.1 vwCl [(x, .inr (7, [.ref ms, .ref mp, .int (nI (rcS pz)), .ref mt, .int (nI len), .ref md, .int (nI sp), .int q1, .int q2, .int q3, .int q4, .int q5, .int (nI fm)])), (ms, .inl (E.2.1, 265, .inl (fun zz => nI ((frT M (M 0) g w) zz)))), (mp, .inl (E.2.1, 1060, .inl (fun zz => nI ((rcP Pa M pz) zz)))), (md, .inl (E.2.1, 4, .inl (fun zz => nI ((sdL M Sd 4) zz))))] HZ → va_D AZ [(x, .inr (7, [.ref ms, .ref mp, .int (nI (rcS pz)), .ref mt, .int (nI len), .ref md, .int (nI sp), .int q1, .int q2, .int q3, .int q4, .int q5, .int (nI fm)])), (ms, .inl (E.2.1, 265, .inl (fun zz => nI ((frT M (M 0) g w) zz)))), (mp, .inl (E.2.1, 1060, .inl (fun zz => nI ((rcP Pa M pz) zz)))), (md, .inl (E.2.1, 4, .inl (fun zz => nI ((sdL M Sd 4) zz))))] → va_S AZ sZ.heap HZ locsZ → ∀ ls : Array Slot, lv_has ls 5 [(4, .int (nI w)), (3, .int (nI g)), (0, .ref x), (1, .int (nI y)), (2, .int (nI h))] → W pZ l eZ ({ frames := 6, cells := 0, slots := 0, locals := 135 }) sZ mZ argsZ belowZ methZ cZ HZ locsZ 0 0 QZ (F0 mZ 94 ls []) := by
                    intro fuelZ
                    induction fuelZ with
                    | zero => intro w hm; exact absurd hm (Nat.not_lt_zero _)
                    | succ fuelZ ih94 =>
                      intro w hm j0 HZ locsZ hP hD hS ls hl
                      refine lv_iload hx hb dX7_fret_94 (lv_at hl 0 rfl) ?_
                      refine lv_iconst (v := nI 3) hx hb dX7_fret_96 (by decide) ?_
                      refine z_icmp_ge (a := w) (b := 3) (tgt := 122) hx hb dX7_fret_97 (by decide) (by omega) (by omega) (fun c40 => ?_) (fun c40 => ?_)
                      · -- 97 t
                        refine z_idec (k := 1) (lv' := [(3, .int (nI (g - 1))), (4, .int (nI w)), (0, .ref x), (1, .int (nI y)), (2, .int (nI h))]) hx hb dX7_fret_122 (by decide) hl rfl (by omega) (by decide) rfl (fun ls hl => ?_)
                        refine lv_goto (tgt := 74) hx hb dX7_fret_125 (by decide) ?_
                        have e41 : (frT M (M 0) g w : Nat → Nat) = frS M (M 0) ((g - 1) - 1) := by first | rfl | (rw [show w = 3 by omega]; exact frT_3 (by omega) (by omega))
                        have hP : va_P E.1 vwCl [(x, .inr (7, [.ref ms, .ref mp, .int (nI (rcS pz)), .ref mt, .int (nI len), .ref md, .int (nI sp), .int q1, .int q2, .int q3, .int q4, .int q5, .int (nI fm)])), (ms, .inl (E.2.1, 265, .inl (fun zz => nI ((frS M (M 0) ((g - 1) - 1)) zz)))), (mp, .inl (E.2.1, 1060, .inl (fun zz => nI ((rcP Pa M pz) zz)))), (md, .inl (E.2.1, 4, .inl (fun zz => nI ((sdL M Sd 4) zz))))] HZ := Eq.subst (motive := fun XX : Nat → Nat => va_P E.1 vwCl [(x, .inr (7, [.ref ms, .ref mp, .int (nI (rcS pz)), .ref mt, .int (nI len), .ref md, .int (nI sp), .int q1, .int q2, .int q3, .int q4, .int q5, .int (nI fm)])), (ms, .inl (E.2.1, 265, .inl (fun zz => nI (XX zz)))), (mp, .inl (E.2.1, 1060, .inl (fun zz => nI ((rcP Pa M pz) zz)))), (md, .inl (E.2.1, 4, .inl (fun zz => nI ((sdL M Sd 4) zz))))] HZ) e41 hP
                        have hD : va_D AZ [(x, .inr (7, [.ref ms, .ref mp, .int (nI (rcS pz)), .ref mt, .int (nI len), .ref md, .int (nI sp), .int q1, .int q2, .int q3, .int q4, .int q5, .int (nI fm)])), (ms, .inl (E.2.1, 265, .inl (fun zz => nI ((frS M (M 0) ((g - 1) - 1)) zz)))), (mp, .inl (E.2.1, 1060, .inl (fun zz => nI ((rcP Pa M pz) zz)))), (md, .inl (E.2.1, 4, .inl (fun zz => nI ((sdL M Sd 4) zz))))] := Eq.subst (motive := fun XX : Nat → Nat => va_D AZ [(x, .inr (7, [.ref ms, .ref mp, .int (nI (rcS pz)), .ref mt, .int (nI len), .ref md, .int (nI sp), .int q1, .int q2, .int q3, .int q4, .int q5, .int (nI fm)])), (ms, .inl (E.2.1, 265, .inl (fun zz => nI (XX zz)))), (mp, .inl (E.2.1, 1060, .inl (fun zz => nI ((rcP Pa M pz) zz)))), (md, .inl (E.2.1, 4, .inl (fun zz => nI ((sdL M Sd 4) zz))))]) e41 hD
                        exact ih74 (g - 1) 0 (by omega) (by omega) (by omega) (hss) _ _ hP hD hS _ (lv_sub hl [0, 2, 3, 4] rfl)
                      · -- 97 f
                        refine lv_aload_n hx hb dX7_fret_100 rfl (lv_at hl 2 rfl) ?_
                        refine lv_iload_n hx hb dX7_fret_101 rfl (lv_at hl 1 rfl) ?_
                        refine lv_iload hx hb dX7_fret_102 (lv_at hl 0 rfl) ?_
                        refine lv_aload_n hx hb dX7_fret_104 rfl (lv_at hl 2 rfl) ?_
                        refine lv_iload_n hx hb dX7_fret_105 rfl (lv_at hl 1 rfl) ?_
                        refine lv_iconst (v := nI 1) hx hb dX7_fret_106 (by decide) ?_
                        refine z_isub (a := g) (b := 1) hx hb dX7_fret_107 (by omega) ?_
                        refine lv_iload hx hb dX7_fret_108 (lv_at hl 0 rfl) ?_
                        have hPc := zP_sub (w := [(x, .inr (7, [.ref ms, .ref mp, .int (nI (rcS pz)), .ref mt, .int (nI len), .ref md, .int (nI sp), .int q1, .int q2, .int q3, .int q4, .int q5, .int (nI fm)])), (ms, .inl (E.2.1, 265, .inl (fun zz => nI ((frT M (M 0) g w) zz))))]) hP [0, 1] rfl
                        refine z_rd (fun _ h => h) (va_runV (As := [.int (nI (g - 1)), .int (nI w)]) (rest := [.int (nI w), .int (nI g), .ref x]) hF (c_X7_on l E x ms mp mt md (rcS pz) len sp fm (g - 1) w q1 q2 q3 q4 q5 (frT M (M 0) g w) (by first | assumption | omega) (by first | assumption | omega) (by first | assumption | omega)) (cwV 2 hts gX7_fret_X7_on rfl rfl rfl (by decide +kernel) ⟨Nat.le_of_ble_eq_true rfl, Nat.le_of_ble_eq_true rfl⟩) (z_preRV (va_recv hG.1 hP (ci := 7) (q0 := 0) rfl rfl) hPc hG) rfl rfl hl.1 rfl (lv_room (Nat.le_of_ble_eq_true rfl)) dX7_fret_110 ⟨Nat.zero_le _, Nat.zero_le _⟩) (fun r42 hr42 => ?_)
                        subst hr42
                        have hPc := zP_sub (w := [(x, .inr (7, [.ref ms, .ref mp, .int (nI (rcS pz)), .ref mt, .int (nI len), .ref md, .int (nI sp), .int q1, .int q2, .int q3, .int q4, .int q5, .int (nI fm)])), (ms, .inl (E.2.1, 265, .inl (fun zz => nI ((frT M (M 0) g w) zz))))]) hP [0, 1] rfl
                        have hDc := zD_sub (w := [(x, .inr (7, [.ref ms, .ref mp, .int (nI (rcS pz)), .ref mt, .int (nI len), .ref md, .int (nI sp), .int q1, .int q2, .int q3, .int q4, .int q5, .int (nI fm)])), (ms, .inl (E.2.1, 265, .inl (fun zz => nI ((frT M (M 0) g w) zz))))]) hD [0, 1] (by decide) rfl
                        refine z_vd [0, 1] (va_runV (As := [.int (nI g), .int (nI w), .int (nI ((frT M (M 0) g w) (9 + 3 * ((g - 1) - 1) + w)))]) (rest := []) hF (c_X7_lays l E x ms mp mt md (rcS pz) len sp fm g w ((frT M (M 0) g w) (9 + 3 * ((g - 1) - 1) + w)) q1 q2 q3 q4 q5 (frT M (M 0) g w) (by first | assumption | omega) (by first | assumption | omega) (by first | assumption | omega)) (cwV 3 hts gX7_fret_X7_lays rfl rfl rfl (by decide +kernel) ⟨Nat.le_of_ble_eq_true rfl, Nat.le_of_ble_eq_true rfl⟩) (z_preMV (va_recv hG.1 hP (ci := 7) (q0 := 0) rfl rfl) hPc hDc hG) rfl rfl hl.1 rfl (lv_room (Nat.le_of_ble_eq_true rfl)) dX7_fret_113 ⟨Nat.zero_le _, Nat.zero_le _⟩) hP hD hS rfl (fun w' HZ locsZ hw hP hD hS => ?_)
                        subst hw
                        have hP : va_P E.1 vwCl [(x, .inr (7, [.ref ms, .ref mp, .int (nI (rcS pz)), .ref mt, .int (nI len), .ref md, .int (nI sp), .int q1, .int q2, .int q3, .int q4, .int q5, .int (nI fm)])), (ms, .inl (E.2.1, 265, .inl (fun zz => nI ((va_up (frT M (M 0) g w) (9 + 3 * (g - 1) + w) ((frT M (M 0) g w) (9 + 3 * ((g - 1) - 1) + w))) zz)))), (mp, .inl (E.2.1, 1060, .inl (fun zz => nI ((rcP Pa M pz) zz)))), (md, .inl (E.2.1, 4, .inl (fun zz => nI ((sdL M Sd 4) zz))))] _ := hP
                        have hD : va_D AZ [(x, .inr (7, [.ref ms, .ref mp, .int (nI (rcS pz)), .ref mt, .int (nI len), .ref md, .int (nI sp), .int q1, .int q2, .int q3, .int q4, .int q5, .int (nI fm)])), (ms, .inl (E.2.1, 265, .inl (fun zz => nI ((va_up (frT M (M 0) g w) (9 + 3 * (g - 1) + w) ((frT M (M 0) g w) (9 + 3 * ((g - 1) - 1) + w))) zz)))), (mp, .inl (E.2.1, 1060, .inl (fun zz => nI ((rcP Pa M pz) zz)))), (md, .inl (E.2.1, 4, .inl (fun zz => nI ((sdL M Sd 4) zz))))] := hD
                        refine z_iinc (k := 0) (d := 1) (lv' := [(4, .int (nI (w + 1))), (3, .int (nI g)), (0, .ref x), (1, .int (nI y)), (2, .int (nI h))]) hx hb dX7_fret_116 (by decide) hl rfl (by decide) rfl (fun ls hl => ?_)
                        refine lv_goto (tgt := 94) hx hb dX7_fret_119 (by decide) ?_
                        have e43 : (va_up (frT M (M 0) g w) (9 + 3 * (g - 1) + w) ((frT M (M 0) g w) (9 + 3 * ((g - 1) - 1) + w)) : Nat → Nat) = frT M (M 0) g (w + 1) := by first | rfl | (exact frT_s (by omega) (by omega) (by omega))
                        have hP : va_P E.1 vwCl [(x, .inr (7, [.ref ms, .ref mp, .int (nI (rcS pz)), .ref mt, .int (nI len), .ref md, .int (nI sp), .int q1, .int q2, .int q3, .int q4, .int q5, .int (nI fm)])), (ms, .inl (E.2.1, 265, .inl (fun zz => nI ((frT M (M 0) g (w + 1)) zz)))), (mp, .inl (E.2.1, 1060, .inl (fun zz => nI ((rcP Pa M pz) zz)))), (md, .inl (E.2.1, 4, .inl (fun zz => nI ((sdL M Sd 4) zz))))] HZ := Eq.subst (motive := fun XX : Nat → Nat => va_P E.1 vwCl [(x, .inr (7, [.ref ms, .ref mp, .int (nI (rcS pz)), .ref mt, .int (nI len), .ref md, .int (nI sp), .int q1, .int q2, .int q3, .int q4, .int q5, .int (nI fm)])), (ms, .inl (E.2.1, 265, .inl (fun zz => nI (XX zz)))), (mp, .inl (E.2.1, 1060, .inl (fun zz => nI ((rcP Pa M pz) zz)))), (md, .inl (E.2.1, 4, .inl (fun zz => nI ((sdL M Sd 4) zz))))] HZ) e43 hP
                        have hD : va_D AZ [(x, .inr (7, [.ref ms, .ref mp, .int (nI (rcS pz)), .ref mt, .int (nI len), .ref md, .int (nI sp), .int q1, .int q2, .int q3, .int q4, .int q5, .int (nI fm)])), (ms, .inl (E.2.1, 265, .inl (fun zz => nI ((frT M (M 0) g (w + 1)) zz)))), (mp, .inl (E.2.1, 1060, .inl (fun zz => nI ((rcP Pa M pz) zz)))), (md, .inl (E.2.1, 4, .inl (fun zz => nI ((sdL M Sd 4) zz))))] := Eq.subst (motive := fun XX : Nat → Nat => va_D AZ [(x, .inr (7, [.ref ms, .ref mp, .int (nI (rcS pz)), .ref mt, .int (nI len), .ref md, .int (nI sp), .int q1, .int q2, .int q3, .int q4, .int q5, .int (nI fm)])), (ms, .inl (E.2.1, 265, .inl (fun zz => nI (XX zz)))), (mp, .inl (E.2.1, 1060, .inl (fun zz => nI ((rcP Pa M pz) zz)))), (md, .inl (E.2.1, 4, .inl (fun zz => nI ((sdL M Sd 4) zz))))]) e43 hD
                        exact ih94 (w + 1) (by omega) (by omega) _ _ hP hD hS _ (lv_sub hl [0, 1, 2, 3, 4] rfl)
                  have e44 : (frS M (M 0) (g - 1) : Nat → Nat) = frT M (M 0) g 0 := by first | rfl | (exact frT_0 (by omega))
                  have hP : va_P E.1 vwCl [(x, .inr (7, [.ref ms, .ref mp, .int (nI (rcS pz)), .ref mt, .int (nI len), .ref md, .int (nI sp), .int q1, .int q2, .int q3, .int q4, .int q5, .int (nI fm)])), (ms, .inl (E.2.1, 265, .inl (fun zz => nI ((frT M (M 0) g 0) zz)))), (mp, .inl (E.2.1, 1060, .inl (fun zz => nI ((rcP Pa M pz) zz)))), (md, .inl (E.2.1, 4, .inl (fun zz => nI ((sdL M Sd 4) zz))))] HZ := Eq.subst (motive := fun XX : Nat → Nat => va_P E.1 vwCl [(x, .inr (7, [.ref ms, .ref mp, .int (nI (rcS pz)), .ref mt, .int (nI len), .ref md, .int (nI sp), .int q1, .int q2, .int q3, .int q4, .int q5, .int (nI fm)])), (ms, .inl (E.2.1, 265, .inl (fun zz => nI (XX zz)))), (mp, .inl (E.2.1, 1060, .inl (fun zz => nI ((rcP Pa M pz) zz)))), (md, .inl (E.2.1, 4, .inl (fun zz => nI ((sdL M Sd 4) zz))))] HZ) e44 hP
                  have hD : va_D AZ [(x, .inr (7, [.ref ms, .ref mp, .int (nI (rcS pz)), .ref mt, .int (nI len), .ref md, .int (nI sp), .int q1, .int q2, .int q3, .int q4, .int q5, .int (nI fm)])), (ms, .inl (E.2.1, 265, .inl (fun zz => nI ((frT M (M 0) g 0) zz)))), (mp, .inl (E.2.1, 1060, .inl (fun zz => nI ((rcP Pa M pz) zz)))), (md, .inl (E.2.1, 4, .inl (fun zz => nI ((sdL M Sd 4) zz))))] := Eq.subst (motive := fun XX : Nat → Nat => va_D AZ [(x, .inr (7, [.ref ms, .ref mp, .int (nI (rcS pz)), .ref mt, .int (nI len), .ref md, .int (nI sp), .int q1, .int q2, .int q3, .int q4, .int q5, .int (nI fm)])), (ms, .inl (E.2.1, 265, .inl (fun zz => nI (XX zz)))), (mp, .inl (E.2.1, 1060, .inl (fun zz => nI ((rcP Pa M pz) zz)))), (md, .inl (E.2.1, 4, .inl (fun zz => nI ((sdL M Sd 4) zz))))]) e44 hD
                  exact L94_39 ((3 - 0) + 1) 0 (Nat.lt_succ_self _) (by omega) _ _ hP hD hS _ (lv_sub hl [0, 1, 2, 3, 4] rfl)
          have e45 : (va_up M 0 ((M 0) + 1) : Nat → Nat) = frS M (M 0) (((M 0) + 1) - 1) := by first | rfl | (exact frS_0 M rfl)
          have hP : va_P E.1 vwCl [(x, .inr (7, [.ref ms, .ref mp, .int (nI (rcS pz)), .ref mt, .int (nI len), .ref md, .int (nI sp), .int q1, .int q2, .int q3, .int q4, .int q5, .int (nI fm)])), (ms, .inl (E.2.1, 265, .inl (fun zz => nI ((frS M (M 0) (((M 0) + 1) - 1)) zz)))), (mp, .inl (E.2.1, 1060, .inl (fun zz => nI ((rcP Pa M pz) zz)))), (md, .inl (E.2.1, 4, .inl (fun zz => nI ((sdL M Sd 4) zz))))] HZ := Eq.subst (motive := fun XX : Nat → Nat => va_P E.1 vwCl [(x, .inr (7, [.ref ms, .ref mp, .int (nI (rcS pz)), .ref mt, .int (nI len), .ref md, .int (nI sp), .int q1, .int q2, .int q3, .int q4, .int q5, .int (nI fm)])), (ms, .inl (E.2.1, 265, .inl (fun zz => nI (XX zz)))), (mp, .inl (E.2.1, 1060, .inl (fun zz => nI ((rcP Pa M pz) zz)))), (md, .inl (E.2.1, 4, .inl (fun zz => nI ((sdL M Sd 4) zz))))] HZ) e45 hP
          have hD : va_D AZ [(x, .inr (7, [.ref ms, .ref mp, .int (nI (rcS pz)), .ref mt, .int (nI len), .ref md, .int (nI sp), .int q1, .int q2, .int q3, .int q4, .int q5, .int (nI fm)])), (ms, .inl (E.2.1, 265, .inl (fun zz => nI ((frS M (M 0) (((M 0) + 1) - 1)) zz)))), (mp, .inl (E.2.1, 1060, .inl (fun zz => nI ((rcP Pa M pz) zz)))), (md, .inl (E.2.1, 4, .inl (fun zz => nI ((sdL M Sd 4) zz))))] := Eq.subst (motive := fun XX : Nat → Nat => va_D AZ [(x, .inr (7, [.ref ms, .ref mp, .int (nI (rcS pz)), .ref mt, .int (nI len), .ref md, .int (nI sp), .int q1, .int q2, .int q3, .int q4, .int q5, .int (nI fm)])), (ms, .inl (E.2.1, 265, .inl (fun zz => nI (XX zz)))), (mp, .inl (E.2.1, 1060, .inl (fun zz => nI ((rcP Pa M pz) zz)))), (md, .inl (E.2.1, 4, .inl (fun zz => nI ((sdL M Sd 4) zz))))]) e45 hD
          exact L74_8 (((M 0) + 1) + 1) ((M 0) + 1) 0 (Nat.lt_succ_self _) (by omega) (by omega) (by rw [Nat.add_sub_cancel]) _ _ hP hD hS _ (lv_sub hl [0, 1, 2, 3] rfl)
        · -- 43 f
          refine lv_bipush (v := (-3)) hx hb dX7_fret_46 (by decide) ?_
          exact hret _ _ _ _ _ _ hP hS dX7_fret_48 rfl (Or.inr (Or.inr (Or.inl ⟨y, h, rfl, ⟨rfl, rfl, by omega, by omega, by omega, hnt, by omega⟩, rfl⟩)))
    · -- 16 f
      refine lv_if_ne (tgt := 24) hx hb dX7_fret_19 (by decide) (fun c => absurd c (by decide)) (fun _ => ?_)
      refine lv_iconst (v := (-1)) hx hb dX7_fret_22 (by decide) ?_
      exact hret _ _ _ _ _ _ hP hS dX7_fret_23 rfl (Or.inl ⟨rfl, by intro q; first | exact absurd q (by assumption) | exact absurd q.1 (by assumption) | exact absurd q.2 (by assumption) | exact absurd q.2.1 (by assumption) | exact absurd q.2.2 (by assumption), rfl⟩)
  · -- 5 f
    refine lv_if_eq (tgt := 22) hx hb dX7_fret_8 (by decide) (fun _ => ?_) (fun c => absurd c (by decide))
    refine lv_iconst (v := (-1)) hx hb dX7_fret_22 (by decide) ?_
    exact hret _ _ _ _ _ _ hP hS dX7_fret_23 rfl (Or.inl ⟨rfl, by intro q; first | exact absurd q (by assumption) | exact absurd q.1 (by assumption) | exact absurd q.2 (by assumption) | exact absurd q.2.1 (by assumption) | exact absurd q.2.2 (by assumption), rfl⟩)
