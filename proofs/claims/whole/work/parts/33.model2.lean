theorem iwX7_isThere_X7_c_X7_isThere : ∀ w ∈ wsX70, w ∈ wsX7_isThere := by decide +kernel
set_option maxHeartbeats 1000000 in
set_option maxRecDepth 100000 in
theorem c_X7_isThere (l : Launch) (E : zE) (x ms mp mt md pz len sp fm : Nat) (q1 q2 q3 q4 q5 v : Int32) (M : Nat → Nat) (hn : M 0 ≤ 12) : zR l yX7_isThere wsX7_isThere ({ frames := 1, cells := 0, slots := 0, locals := 22 }) E [.ref x, .int v] [(x, .inr (7, [.ref ms, .ref mp, .int (nI pz), .ref mt, .int (nI len), .ref md, .int (nI sp), .int q1, .int q2, .int q3, .int q4, .int q5, .int (nI fm)])), (ms, .inl (E.2.1, 265, .inl (fun zz => nI (M zz))))] (fun r => (r = nI 1 ∧ (∃ i, i < M 0 ∧ nI (mP M i) = v)) ∨ (r = nI 0 ∧ ¬ (∃ i, i < M 0 ∧ nI (mP M i) = v))) := by
  refine zR.start (own := RX7) rfl (by decide +kernel) rfl (Nat.le_of_ble_eq_true rfl) (z_nar) ?_
  intro pZ eZ sZ mZ argsZ belowZ methZ cZ QZ hF hret hP hG ls hl
  obtain ⟨hx, hb, hml, hown, hts⟩ := id hF
  have hl : lv_has ls 4 [(0, .ref x), (1, .int v)] := hl
  refine lv_iconst (v := nI 0) hx hb dX7_isThere_0 (by decide) ?_
  refine lv_istore_n (lv' := [(2, .int (nI 0)), (0, .ref x), (1, .int v)]) hx hb dX7_isThere_1 rfl hl (by decide) rfl (fun ls hl => ?_)
  refine lv_iconst (v := nI 1) hx hb dX7_isThere_2 (by decide) ?_
  refine lv_istore_n (lv' := [(3, .int (nI 1)), (2, .int (nI 0)), (0, .ref x), (1, .int v)]) hx hb dX7_isThere_3 rfl hl (by decide) rfl (fun ls hl => ?_)
  have L4_1 : ∀ (fuelZ : Nat) (bb : Nat) (g : Nat), M 0 + 1 - g < fuelZ → (1 ≤ g) → (g ≤ M 0 + 1) → ((bb = 1 ∧ ∃ i, i + 1 < g ∧ nI (mP M i) = v) ∨ (bb = 0 ∧ ∀ i, i + 1 < g → nI (mP M i) ≠ v)) → ∀ ls : Array Slot, lv_has ls 4 [(3, .int (nI g)), (2, .int (nI bb)), (0, .ref x), (1, .int v)] → W pZ l eZ ({ frames := 1, cells := 0, slots := 0, locals := 22 }) sZ mZ argsZ belowZ methZ cZ sZ.heap [] 0 0 QZ (F0 mZ 4 ls []) := by
    intro fuelZ
    induction fuelZ with
    | zero => intro bb g hm; exact absurd hm (Nat.not_lt_zero _)
    | succ fuelZ ih4 =>
      intro bb g hm i0 i1 hib ls hl
      refine lv_iload_n hx hb dX7_isThere_4 rfl (lv_at hl 0 rfl) ?_
      refine lv_aload_n hx hb dX7_isThere_5 rfl (lv_at hl 2 rfl) ?_
      refine va_get (D := E.1) (ci := 7) (v := .ref ms) (C := RX7) (T := TX7) (N := 13) hx hb hts iwX7_isThere_X7_c_X7_isThere hown hG.1 hP 0 rfl rfl 0 (by decide) (hts (.fieldLink RX7 7 "FrettedStringsModel" "st" "[I") (by decide +kernel)) (fun _ h9 => h9) rfl dX7_isThere_6 ?_
      refine lv_iconst (v := nI 0) hx hb dX7_isThere_9 (by decide) ?_
      refine z_iald (j := 0) (v := M 0) hx hb hG hP 1 rfl (by omega) (by decide) (rfl) dX7_isThere_10 ?_
      refine z_icmp_gt (a := g) (b := M 0) (tgt := 40) hx hb dX7_isThere_11 (by decide) (by omega) (by omega) (fun c2 => ?_) (fun c2 => ?_)
      · -- 11 t
        refine lv_iload_n hx hb dX7_isThere_40 rfl (lv_at hl 1 rfl) ?_
        exact hret _ _ _ dX7_isThere_41 (by rcases hib with ⟨rfl, i, q1, q2⟩ | ⟨rfl, q⟩; exact Or.inl ⟨rfl, i, by omega, q2⟩; exact Or.inr ⟨rfl, fun ⟨i, q1, q2⟩ => q i (by omega) q2⟩)
      · -- 11 f
        refine lv_iload_n hx hb dX7_isThere_14 rfl (lv_at hl 1 rfl) ?_
        refine z_if_ne (a := bb) (tgt := 28) hx hb dX7_isThere_15 (by decide) (by omega) (fun c3 => ?_) (fun c3 => ?_)
        · -- 15 t
          refine lv_iconst (v := nI 1) hx hb dX7_isThere_28 (by decide) ?_
          refine lv_goto (tgt := 33) hx hb dX7_isThere_29 (by decide) ?_
          refine lv_istore_n (lv' := [(2, .int (nI 1)), (3, .int (nI g)), (0, .ref x), (1, .int v)]) hx hb dX7_isThere_33 rfl hl (by decide) rfl (fun ls hl => ?_)
          refine z_iinc (k := 1) (d := 1) (lv' := [(3, .int (nI (g + 1))), (2, .int (nI 1)), (0, .ref x), (1, .int v)]) hx hb dX7_isThere_34 (by decide) hl rfl (by decide) rfl (fun ls hl => ?_)
          refine lv_goto (tgt := 4) hx hb dX7_isThere_37 (by decide) ?_
          exact ih4 1 (g + 1) (by omega) (by omega) (by omega) (by first | exact there_a hib (by omega) | exact there_b i0 hib (by omega) (by assumption) | exact there_c i0 hib (by omega) (by assumption)) _ (lv_sub hl [0, 1, 2, 3] rfl)
        · -- 15 f
          refine lv_aload_n hx hb dX7_isThere_18 rfl (lv_at hl 2 rfl) ?_
          refine lv_iload_n hx hb dX7_isThere_19 rfl (lv_at hl 0 rfl) ?_
          refine lv_iconst (v := nI 0) hx hb dX7_isThere_20 (by decide) ?_
          have hPc := zP_sub (w := [(x, .inr (7, [.ref ms, .ref mp, .int (nI pz), .ref mt, .int (nI len), .ref md, .int (nI sp), .int q1, .int q2, .int q3, .int q4, .int q5, .int (nI fm)])), (ms, .inl (E.2.1, 265, .inl (fun zz => nI (M zz))))]) hP [0, 1] rfl
          refine z_rd (fun _ h => h) (va_runV (As := [.int (nI g), .int (nI 0)]) (rest := []) hF (c_X7_on l E x ms mp mt md pz len sp fm g 0 q1 q2 q3 q4 q5 M (by first | assumption | omega) (by first | assumption | omega) (by first | assumption | omega)) (cwV 2 hts gX7_isThere_X7_on rfl rfl rfl (by decide +kernel) ⟨Nat.le_of_ble_eq_true rfl, Nat.le_of_ble_eq_true rfl⟩) (z_preRV (va_recv hG.1 hP (ci := 7) (q0 := 0) rfl rfl) hPc hG) rfl rfl hl.1 rfl (lv_room (Nat.le_of_ble_eq_true rfl)) dX7_isThere_21 ⟨Nat.zero_le _, Nat.zero_le _⟩) (fun r4 hr4 => ?_)
          subst hr4
          refine lv_iload_n hx hb dX7_isThere_24 rfl (lv_at hl 3 rfl) ?_
          refine lv_icmp_ne (tgt := 32) hx hb dX7_isThere_25 (by decide) (fun c5 => ?_) (fun c5 => ?_)
          · -- 25 t
            refine lv_iconst (v := nI 0) hx hb dX7_isThere_32 (by decide) ?_
            refine lv_istore_n (lv' := [(2, .int (nI 0)), (3, .int (nI g)), (0, .ref x), (1, .int v)]) hx hb dX7_isThere_33 rfl hl (by decide) rfl (fun ls hl => ?_)
            refine z_iinc (k := 1) (d := 1) (lv' := [(3, .int (nI (g + 1))), (2, .int (nI 0)), (0, .ref x), (1, .int v)]) hx hb dX7_isThere_34 (by decide) hl rfl (by decide) rfl (fun ls hl => ?_)
            refine lv_goto (tgt := 4) hx hb dX7_isThere_37 (by decide) ?_
            exact ih4 0 (g + 1) (by omega) (by omega) (by omega) (by first | exact there_a hib (by omega) | exact there_b i0 hib (by omega) (by assumption) | exact there_c i0 hib (by omega) (by assumption)) _ (lv_sub hl [0, 1, 2, 3] rfl)
          · -- 25 f
            refine lv_iconst (v := nI 1) hx hb dX7_isThere_28 (by decide) ?_
            refine lv_goto (tgt := 33) hx hb dX7_isThere_29 (by decide) ?_
            refine lv_istore_n (lv' := [(2, .int (nI 1)), (3, .int (nI g)), (0, .ref x), (1, .int v)]) hx hb dX7_isThere_33 rfl hl (by decide) rfl (fun ls hl => ?_)
            refine z_iinc (k := 1) (d := 1) (lv' := [(3, .int (nI (g + 1))), (2, .int (nI 1)), (0, .ref x), (1, .int v)]) hx hb dX7_isThere_34 (by decide) hl rfl (by decide) rfl (fun ls hl => ?_)
            refine lv_goto (tgt := 4) hx hb dX7_isThere_37 (by decide) ?_
            exact ih4 1 (g + 1) (by omega) (by omega) (by omega) (by first | exact there_a hib (by omega) | exact there_b i0 hib (by omega) (by assumption) | exact there_c i0 hib (by omega) (by assumption)) _ (lv_sub hl [0, 1, 2, 3] rfl)
  exact L4_1 ((M 0 + 1 - 1) + 1) 0 1 (Nat.lt_succ_self _) (by omega) (by omega) (Or.inr ⟨rfl, fun i q => by omega⟩) _ (lv_sub hl [0, 1, 2, 3] rfl)
theorem iwX7_loud_X7_c_X7_loud : ∀ w ∈ wsX70, w ∈ wsX7_loud := by decide +kernel
set_option maxHeartbeats 1000000 in
set_option maxRecDepth 100000 in
theorem c_X7_loud (l : Launch) (E : zE) (x ms mp mt md pz len sp fm s n : Nat) (q1 q2 q3 q4 q5 : Int32) (M : Nat → Nat) (hs : s < 4) (hm1 : 1 ≤ n) (hm2 : n ≤ 12) : zR l yX7_loud wsX7_loud ({ frames := 0, cells := 0, slots := 0, locals := 0 }) E [.ref x, .int (nI s), .int (nI n)] [(x, .inr (7, [.ref ms, .ref mp, .int (nI pz), .ref mt, .int (nI len), .ref md, .int (nI sp), .int q1, .int q2, .int q3, .int q4, .int q5, .int (nI fm)])), (ms, .inl (E.2.1, 265, .inl (fun zz => nI (M zz))))] (fun r => r = nI (M (61 + 12 * s + n - 1))) := by
  refine zR.start (own := RX7) rfl (by decide +kernel) rfl (Nat.le_of_ble_eq_true rfl) (fun _ _ => rfl) ?_
  intro pZ eZ sZ mZ argsZ belowZ methZ cZ QZ hF hret hP hG ls hl
  obtain ⟨hx, hb, hml, hown, hts⟩ := id hF
  have hl : lv_has ls 3 [(0, .ref x), (1, .int (nI s)), (2, .int (nI n))] := hl
  refine lv_aload_n hx hb dX7_loud_0 rfl (lv_at hl 0 rfl) ?_
  refine va_get (D := E.1) (ci := 7) (v := .ref ms) (C := RX7) (T := TX7) (N := 13) hx hb hts iwX7_loud_X7_c_X7_loud hown hG.1 hP 0 rfl rfl 0 (by decide) (hts (.fieldLink RX7 7 "FrettedStringsModel" "st" "[I") (by decide +kernel)) (fun _ h9 => h9) rfl dX7_loud_1 ?_
  refine lv_bipush (v := nI 61) hx hb dX7_loud_4 (by decide) ?_
  refine lv_bipush (v := nI 12) hx hb dX7_loud_6 (by decide) ?_
  refine lv_iload_n hx hb dX7_loud_8 rfl (lv_at hl 1 rfl) ?_
  refine z_imul (a := 12) (b := s) hx hb dX7_loud_9 ?_
  refine z_iadd (a := 61) (b := 12 * s) hx hb dX7_loud_10 ?_
  refine lv_iload_n hx hb dX7_loud_11 rfl (lv_at hl 2 rfl) ?_
  refine z_iadd (a := 61 + (12 * s)) (b := n) hx hb dX7_loud_12 ?_
  refine lv_iconst (v := nI 1) hx hb dX7_loud_13 (by decide) ?_
  refine z_isub (a := (61 + (12 * s)) + n) (b := 1) hx hb dX7_loud_14 (by omega) ?_
  refine z_iald (j := ((61 + (12 * s)) + n) - 1) (v := M (((61 + (12 * s)) + n) - 1)) hx hb hG hP 1 rfl (by omega) (by decide) (rfl) dX7_loud_15 ?_
  exact hret _ _ _ dX7_loud_16 (by first | rfl | (congr 1; omega))
set_option maxHeartbeats 1000000 in
set_option maxRecDepth 100000 in
theorem c_X7_isHeard (l : Launch) (E : zE) (x ms mp mt md pz len sp fm s n : Nat) (q1 q2 q3 q4 q5 : Int32) (M : Nat → Nat) (hs : s < 4) (hm1 : 1 ≤ n) (hm2 : n ≤ 12) (ham : ∀ i, i < 48 → mAm M i ≤ 1000000) (hse4 : M 8 ≤ 100000) : zR l yX7_isHeard wsX7_isHeard ({ frames := 1, cells := 0, slots := 0, locals := 22 }) E [.ref x, .int (nI s), .int (nI n)] [(x, .inr (7, [.ref ms, .ref mp, .int (nI pz), .ref mt, .int (nI len), .ref md, .int (nI sp), .int q1, .int q2, .int q3, .int q4, .int q5, .int (nI fm)])), (ms, .inl (E.2.1, 265, .inl (fun zz => nI (M zz))))] (fun r => (r = nI 1 ∧ (0 < M (61 + 12 * s + n - 1) ∧ M 8 ≤ M (61 + 12 * s + n - 1))) ∨ (r = nI 0 ∧ ¬ (0 < M (61 + 12 * s + n - 1) ∧ M 8 ≤ M (61 + 12 * s + n - 1)))) := by
  refine zR.start (own := RX7) rfl (by decide +kernel) rfl (Nat.le_of_ble_eq_true rfl) (z_nar) ?_
  intro pZ eZ sZ mZ argsZ belowZ methZ cZ QZ hF hret hP hG ls hl
  obtain ⟨hx, hb, hml, hown, hts⟩ := id hF
  have hl : lv_has ls 4 [(0, .ref x), (1, .int (nI s)), (2, .int (nI n))] := hl
  have hab : M (61 + 12 * s + n - 1) ≤ 1000000 := am_at ham (by omega) (by omega) (by omega)
  refine lv_aload_n hx hb dX7_isHeard_0 rfl (lv_at hl 0 rfl) ?_
  refine lv_iload_n hx hb dX7_isHeard_1 rfl (lv_at hl 1 rfl) ?_
  refine lv_iload_n hx hb dX7_isHeard_2 rfl (lv_at hl 2 rfl) ?_
  have hPc := zP_sub (w := [(x, .inr (7, [.ref ms, .ref mp, .int (nI pz), .ref mt, .int (nI len), .ref md, .int (nI sp), .int q1, .int q2, .int q3, .int q4, .int q5, .int (nI fm)])), (ms, .inl (E.2.1, 265, .inl (fun zz => nI (M zz))))]) hP [0, 1] rfl
  refine z_rd (fun _ h => h) (va_runV (As := [.int (nI s), .int (nI n)]) (rest := []) hF (c_X7_loud l E x ms mp mt md pz len sp fm s n q1 q2 q3 q4 q5 M (by first | assumption | omega) (by first | assumption | omega) (by first | assumption | omega)) (cwV 2 hts gX7_isHeard_X7_loud rfl rfl rfl (by decide +kernel) ⟨Nat.le_of_ble_eq_true rfl, Nat.le_of_ble_eq_true rfl⟩) (z_preRV (va_recv hG.1 hP (ci := 7) (q0 := 0) rfl rfl) hPc hG) rfl rfl hl.1 rfl (lv_room (Nat.le_of_ble_eq_true rfl)) dX7_isHeard_3 ⟨Nat.zero_le _, Nat.zero_le _⟩) (fun r1 hr1 => ?_)
  subst hr1
  refine lv_istore_n (lv' := [(3, .int (nI (M (61 + 12 * s + n - 1)))), (0, .ref x), (1, .int (nI s)), (2, .int (nI n))]) hx hb dX7_isHeard_6 rfl hl (by decide) rfl (fun ls hl => ?_)
  refine lv_iload_n hx hb dX7_isHeard_7 rfl (lv_at hl 0 rfl) ?_
  refine z_if_le (a := M (61 + 12 * s + n - 1)) (tgt := 24) hx hb dX7_isHeard_8 (by decide) (by omega) (fun c2 => ?_) (fun c2 => ?_)
  · -- 8 t
    refine lv_iconst (v := nI 0) hx hb dX7_isHeard_24 (by decide) ?_
    exact hret _ _ _ dX7_isHeard_25 (Or.inr ⟨rfl, by omega⟩)
  · -- 8 f
    refine lv_iload_n hx hb dX7_isHeard_11 rfl (lv_at hl 0 rfl) ?_
    refine lv_aload_n hx hb dX7_isHeard_12 rfl (lv_at hl 1 rfl) ?_
    refine lv_iconst (v := nI 4) hx hb dX7_isHeard_13 (by decide) ?_
    have hPc := zP_sub (w := [(x, .inr (7, [.ref ms, .ref mp, .int (nI pz), .ref mt, .int (nI len), .ref md, .int (nI sp), .int q1, .int q2, .int q3, .int q4, .int q5, .int (nI fm)])), (ms, .inl (E.2.1, 265, .inl (fun zz => nI (M zz))))]) hP [0, 1] rfl
    refine z_rd (fun _ h => h) (va_runV (As := [.int (nI 4)]) (rest := [.int (nI (M (61 + 12 * s + n - 1)))]) hF (c_X7_setting l E x ms mp mt md pz len sp fm 4 q1 q2 q3 q4 q5 M (by first | assumption | omega)) (cwV 1 hts gX7_isHeard_X7_setting rfl rfl rfl (by decide +kernel) ⟨Nat.le_of_ble_eq_true rfl, Nat.le_of_ble_eq_true rfl⟩) (z_preRV (va_recv hG.1 hP (ci := 7) (q0 := 0) rfl rfl) hPc hG) rfl rfl hl.1 rfl (lv_room (Nat.le_of_ble_eq_true rfl)) dX7_isHeard_14 ⟨Nat.zero_le _, Nat.zero_le _⟩) (fun r3 hr3 => ?_)
    subst hr3
    refine z_icmp_lt (a := M (61 + 12 * s + n - 1)) (b := M 8) (tgt := 24) hx hb dX7_isHeard_17 (by decide) (by omega) (by omega) (fun c4 => ?_) (fun c4 => ?_)
    · -- 17 t
      refine lv_iconst (v := nI 0) hx hb dX7_isHeard_24 (by decide) ?_
      exact hret _ _ _ dX7_isHeard_25 (Or.inr ⟨rfl, by omega⟩)
    · -- 17 f
      refine lv_iconst (v := nI 1) hx hb dX7_isHeard_20 (by decide) ?_
      refine lv_goto (tgt := 25) hx hb dX7_isHeard_21 (by decide) ?_
      exact hret _ _ _ dX7_isHeard_25 (Or.inl ⟨rfl, by omega⟩)
set_option maxHeartbeats 1000000 in
set_option maxRecDepth 100000 in
theorem c_X7_heardOf (l : Launch) (E : zE) (x ms mp mt md pz len sp fm s : Nat) (q1 q2 q3 q4 q5 : Int32) (M : Nat → Nat) (hs : s < 4) (ham : ∀ i, i < 48 → mAm M i ≤ 1000000) (hse4 : M 8 ≤ 100000) : zR l yX7_heardOf wsX7_heardOf ({ frames := 2, cells := 0, slots := 0, locals := 45 }) E [.ref x, .int (nI s)] [(x, .inr (7, [.ref ms, .ref mp, .int (nI pz), .ref mt, .int (nI len), .ref md, .int (nI sp), .int q1, .int q2, .int q3, .int q4, .int q5, .int (nI fm)])), (ms, .inl (E.2.1, 265, .inl (fun zz => nI (M zz))))] (fun r => r = nI (mhL (mAm M) (M 8) s 12)) := by
  refine zR.start (own := RX7) rfl (by decide +kernel) rfl (Nat.le_of_ble_eq_true rfl) (fun _ _ => rfl) ?_
  intro pZ eZ sZ mZ argsZ belowZ methZ cZ QZ hF hret hP hG ls hl
  obtain ⟨hx, hb, hml, hown, hts⟩ := id hF
  have hl : lv_has ls 4 [(0, .ref x), (1, .int (nI s))] := hl
  refine lv_iconst (v := nI 0) hx hb dX7_heardOf_0 (by decide) ?_
  refine lv_istore_n (lv' := [(2, .int (nI 0)), (0, .ref x), (1, .int (nI s))]) hx hb dX7_heardOf_1 rfl hl (by decide) rfl (fun ls hl => ?_)
  refine lv_iconst (v := nI 1) hx hb dX7_heardOf_2 (by decide) ?_
  refine lv_istore_n (lv' := [(3, .int (nI 1)), (2, .int (nI 0)), (0, .ref x), (1, .int (nI s))]) hx hb dX7_heardOf_3 rfl hl (by decide) rfl (fun ls hl => ?_)
  have L4_1 : ∀ (fuelZ : Nat) (g : Nat), 13 - g < fuelZ → (1 ≤ g) → (g ≤ 13) → ∀ ls : Array Slot, lv_has ls 4 [(3, .int (nI g)), (2, .int (nI (mhL (mAm M) (M 8) s (g - 1)))), (0, .ref x), (1, .int (nI s))] → W pZ l eZ ({ frames := 2, cells := 0, slots := 0, locals := 45 }) sZ mZ argsZ belowZ methZ cZ sZ.heap [] 0 0 QZ (F0 mZ 4 ls []) := by
    intro fuelZ
    induction fuelZ with
    | zero => intro g hm; exact absurd hm (Nat.not_lt_zero _)
    | succ fuelZ ih4 =>
      intro g hm i0 i1 ls hl
      refine lv_iload_n hx hb dX7_heardOf_4 rfl (lv_at hl 0 rfl) ?_
      refine lv_bipush (v := nI 12) hx hb dX7_heardOf_5 (by decide) ?_
      refine z_icmp_gt (a := g) (b := 12) (tgt := 37) hx hb dX7_heardOf_7 (by decide) (by omega) (by omega) (fun c2 => ?_) (fun c2 => ?_)
      · -- 7 t
        refine lv_iload_n hx hb dX7_heardOf_37 rfl (lv_at hl 1 rfl) ?_
        exact hret _ _ _ dX7_heardOf_38 (by rw [show g = 13 by omega])
      · -- 7 f
        refine lv_iload_n hx hb dX7_heardOf_10 rfl (lv_at hl 1 rfl) ?_
        refine lv_aload_n hx hb dX7_heardOf_11 rfl (lv_at hl 2 rfl) ?_
        refine lv_iload_n hx hb dX7_heardOf_12 rfl (lv_at hl 3 rfl) ?_
        refine lv_iload_n hx hb dX7_heardOf_13 rfl (lv_at hl 0 rfl) ?_
        have hPc := zP_sub (w := [(x, .inr (7, [.ref ms, .ref mp, .int (nI pz), .ref mt, .int (nI len), .ref md, .int (nI sp), .int q1, .int q2, .int q3, .int q4, .int q5, .int (nI fm)])), (ms, .inl (E.2.1, 265, .inl (fun zz => nI (M zz))))]) hP [0, 1] rfl
        refine z_rd (fun _ h => h) (va_runV (As := [.int (nI s), .int (nI g)]) (rest := [.int (nI (mhL (mAm M) (M 8) s (g - 1)))]) hF (c_X7_isHeard l E x ms mp mt md pz len sp fm s g q1 q2 q3 q4 q5 M (by first | assumption | omega) (by first | assumption | omega) (by first | assumption | omega) (by first | assumption | omega) (by first | assumption | omega)) (cwV 2 hts gX7_heardOf_X7_isHeard rfl rfl rfl (by decide +kernel) ⟨Nat.le_of_ble_eq_true rfl, Nat.le_of_ble_eq_true rfl⟩) (z_preRV (va_recv hG.1 hP (ci := 7) (q0 := 0) rfl rfl) hPc hG) rfl rfl hl.1 rfl (lv_room (Nat.le_of_ble_eq_true rfl)) dX7_heardOf_14 ⟨Nat.zero_le _, Nat.zero_le _⟩) (fun r3 hr3 => ?_)
        rcases hr3 with ⟨rfl, c4⟩ | ⟨rfl, c4⟩
        · -- 14 t
          refine lv_if_eq (tgt := 28) hx hb dX7_heardOf_17 (by decide) (fun c => absurd c (by decide)) (fun _ => ?_)
          refine lv_iconst (v := nI 1) hx hb dX7_heardOf_20 (by decide) ?_
          refine lv_iload_n hx hb dX7_heardOf_21 rfl (lv_at hl 0 rfl) ?_
          refine lv_iconst (v := nI 1) hx hb dX7_heardOf_22 (by decide) ?_
          refine z_isub (a := g) (b := 1) hx hb dX7_heardOf_23 (by omega) ?_
          refine z_ishl (b := g - 1) hx hb dX7_heardOf_24 (by omega) ?_
          refine lv_goto (tgt := 29) hx hb dX7_heardOf_25 (by decide) ?_
          refine z_ior (a := mhL (mAm M) (M 8) s (g - 1)) (b := 2 ^ (g - 1)) hx hb dX7_heardOf_29 ?_
          refine lv_istore_n (lv' := [(2, .int (nI ((mhL (mAm M) (M 8) s (g - 1)) ||| (2 ^ (g - 1))))), (3, .int (nI g)), (0, .ref x), (1, .int (nI s))]) hx hb dX7_heardOf_30 rfl hl (by decide) rfl (fun ls hl => ?_)
          refine z_iinc (k := 1) (d := 1) (lv' := [(3, .int (nI (g + 1))), (2, .int (nI ((mhL (mAm M) (M 8) s (g - 1)) ||| (2 ^ (g - 1))))), (0, .ref x), (1, .int (nI s))]) hx hb dX7_heardOf_31 (by decide) hl rfl (by decide) rfl (fun ls hl => ?_)
          refine lv_goto (tgt := 4) hx hb dX7_heardOf_34 (by decide) ?_
          have e5 : nI ((mhL (mAm M) (M 8) s (g - 1)) ||| (2 ^ (g - 1))) = nI (mhL (mAm M) (M 8) s ((g + 1) - 1)) := by first | rw [mh_t i0 (by assumption)] | rw [mh_f i0 (by assumption), Nat.or_zero] | rw [mh_f i0 (by assumption)]
          have hl : lv_has ls 4 [(3, .int (nI (g + 1))), (2, .int (nI (mhL (mAm M) (M 8) s ((g + 1) - 1)))), (0, .ref x), (1, .int (nI s))] := Eq.subst (motive := fun XX : Int32 => lv_has ls 4 [(3, .int (nI (g + 1))), (2, .int XX), (0, .ref x), (1, .int (nI s))]) e5 hl
          exact ih4 (g + 1) (by omega) (by omega) (by omega) _ (lv_sub hl [0, 1, 2, 3] rfl)
        · -- 14 f
          refine lv_if_eq (tgt := 28) hx hb dX7_heardOf_17 (by decide) (fun _ => ?_) (fun c => absurd c (by decide))
          refine lv_iconst (v := nI 0) hx hb dX7_heardOf_28 (by decide) ?_
          refine z_ior (a := mhL (mAm M) (M 8) s (g - 1)) (b := 0) hx hb dX7_heardOf_29 ?_
          refine lv_istore_n (lv' := [(2, .int (nI ((mhL (mAm M) (M 8) s (g - 1)) ||| 0))), (3, .int (nI g)), (0, .ref x), (1, .int (nI s))]) hx hb dX7_heardOf_30 rfl hl (by decide) rfl (fun ls hl => ?_)
          refine z_iinc (k := 1) (d := 1) (lv' := [(3, .int (nI (g + 1))), (2, .int (nI ((mhL (mAm M) (M 8) s (g - 1)) ||| 0))), (0, .ref x), (1, .int (nI s))]) hx hb dX7_heardOf_31 (by decide) hl rfl (by decide) rfl (fun ls hl => ?_)
          refine lv_goto (tgt := 4) hx hb dX7_heardOf_34 (by decide) ?_
          have e6 : nI ((mhL (mAm M) (M 8) s (g - 1)) ||| 0) = nI (mhL (mAm M) (M 8) s ((g + 1) - 1)) := by first | rw [mh_t i0 (by assumption)] | rw [mh_f i0 (by assumption), Nat.or_zero] | rw [mh_f i0 (by assumption)]
          have hl : lv_has ls 4 [(3, .int (nI (g + 1))), (2, .int (nI (mhL (mAm M) (M 8) s ((g + 1) - 1)))), (0, .ref x), (1, .int (nI s))] := Eq.subst (motive := fun XX : Int32 => lv_has ls 4 [(3, .int (nI (g + 1))), (2, .int XX), (0, .ref x), (1, .int (nI s))]) e6 hl
          exact ih4 (g + 1) (by omega) (by omega) (by omega) _ (lv_sub hl [0, 1, 2, 3] rfl)
  have e7 : nI 0 = nI (mhL (mAm M) (M 8) s (1 - 1)) := by rfl
  have hl : lv_has ls 4 [(3, .int (nI 1)), (2, .int (nI (mhL (mAm M) (M 8) s (1 - 1)))), (0, .ref x), (1, .int (nI s))] := Eq.subst (motive := fun XX : Int32 => lv_has ls 4 [(3, .int (nI 1)), (2, .int XX), (0, .ref x), (1, .int (nI s))]) e7 hl
  exact L4_1 ((13 - 1) + 1) 1 (Nat.lt_succ_self _) (by omega) (by omega) _ (lv_sub hl [0, 1, 2, 3] rfl)
set_option maxHeartbeats 1000000 in
set_option maxRecDepth 100000 in
theorem c_X7_bits (l : Launch) (E : zE) (a : Nat) (ha : a < 4096) : zR l yX7_bits wsX7_bits ({ frames := 0, cells := 0, slots := 0, locals := 0 }) E [.int (nI a)] [] (fun r => r = nI (popc a)) := by
  refine zR.start (own := RX7) rfl (by decide +kernel) rfl (Nat.le_of_ble_eq_true rfl) (fun _ _ => rfl) ?_
  intro pZ eZ sZ mZ argsZ belowZ methZ cZ QZ hF hret hP hG ls hl
  obtain ⟨hx, hb, hml, hown, hts⟩ := id hF
  have hl : lv_has ls 3 [(0, .int (nI a))] := hl
  refine lv_iconst (v := nI 0) hx hb dX7_bits_0 (by decide) ?_
  refine lv_istore_n (lv' := [(1, .int (nI 0)), (0, .int (nI a))]) hx hb dX7_bits_1 rfl hl (by decide) rfl (fun ls hl => ?_)
  refine lv_iload_n hx hb dX7_bits_2 rfl (lv_at hl 1 rfl) ?_
  refine lv_istore_n (lv' := [(2, .int (nI a)), (1, .int (nI 0)), (0, .int (nI a))]) hx hb dX7_bits_3 rfl hl (by decide) rfl (fun ls hl => ?_)
  have L4_1 : ∀ (fuelZ : Nat) (n : Nat) (lf : Nat), lf < fuelZ → (lf < 4096) → (n + popc lf = popc a) → ∀ ls : Array Slot, lv_has ls 3 [(2, .int (nI lf)), (1, .int (nI n)), (0, .int (nI a))] → W pZ l eZ ({ frames := 0, cells := 0, slots := 0, locals := 0 }) sZ mZ argsZ belowZ methZ cZ sZ.heap [] 0 0 QZ (F0 mZ 4 ls []) := by
    intro fuelZ
    induction fuelZ with
    | zero => intro n lf hm; exact absurd hm (Nat.not_lt_zero _)
    | succ fuelZ ih4 =>
      intro n lf hm i0 i1 ls hl
      refine lv_iload_n hx hb dX7_bits_4 rfl (lv_at hl 0 rfl) ?_
      refine z_if_eq (a := lf) (tgt := 20) hx hb dX7_bits_5 (by decide) (by omega) (fun c2 => ?_) (fun c2 => ?_)
      · -- 5 t
        refine lv_iload_n hx hb dX7_bits_20 rfl (lv_at hl 1 rfl) ?_
        exact hret _ _ _ dX7_bits_21 (by have hl0 : lf = 0 := (by assumption); rw [hl0, show popc 0 = 0 from rfl] at i1; congr 1)
      · -- 5 f
        refine z_iinc (k := 1) (d := 1) (lv' := [(1, .int (nI (n + 1))), (2, .int (nI lf)), (0, .int (nI a))]) hx hb dX7_bits_8 (by decide) hl rfl (by decide) rfl (fun ls hl => ?_)
        refine lv_iload_n hx hb dX7_bits_11 rfl (lv_at hl 1 rfl) ?_
        refine lv_iload_n hx hb dX7_bits_12 rfl (lv_at hl 1 rfl) ?_
        refine lv_iconst (v := nI 1) hx hb dX7_bits_13 (by decide) ?_
        refine z_isub (a := lf) (b := 1) hx hb dX7_bits_14 (by omega) ?_
        refine z_iand (a := lf) (b := lf - 1) hx hb dX7_bits_15 ?_
        refine lv_istore_n (lv' := [(2, .int (nI (lf &&& (lf - 1)))), (1, .int (nI (n + 1))), (0, .int (nI a))]) hx hb dX7_bits_16 rfl hl (by decide) rfl (fun ls hl => ?_)
        refine lv_goto (tgt := 4) hx hb dX7_bits_17 (by decide) ?_
        exact ih4 (n + 1) (lf &&& (lf - 1)) (by have := (pop_off i0 (by omega)).2; omega) (by have := (pop_off i0 (by omega)).2; omega) (by have := (pop_off i0 (by omega)).1; omega) _ (lv_sub hl [0, 1, 2] rfl)
  exact L4_1 (a + 1) 0 a (Nat.lt_succ_self _) (by omega) (by rw [Nat.zero_add]) _ (lv_sub hl [0, 1, 2] rfl)
set_option maxHeartbeats 1000000 in
set_option maxRecDepth 100000 in
theorem c_X7_sumOf (l : Launch) (E : zE) (x ms mp mt md pz len sp fm s : Nat) (q1 q2 q3 q4 q5 : Int32) (M : Nat → Nat) (hs : s < 4) : zR l yX7_sumOf wsX7_sumOf ({ frames := 1, cells := 0, slots := 0, locals := 22 }) E [.ref x, .int (nI s)] [(x, .inr (7, [.ref ms, .ref mp, .int (nI pz), .ref mt, .int (nI len), .ref md, .int (nI sp), .int q1, .int q2, .int q3, .int q4, .int q5, .int (nI fm)])), (ms, .inl (E.2.1, 265, .inl (fun zz => nI (M zz))))] (fun r => r = nI (sumA (mAm M) s 12)) := by
  refine zR.start (own := RX7) rfl (by decide +kernel) rfl (Nat.le_of_ble_eq_true rfl) (fun _ _ => rfl) ?_
  intro pZ eZ sZ mZ argsZ belowZ methZ cZ QZ hF hret hP hG ls hl
  obtain ⟨hx, hb, hml, hown, hts⟩ := id hF
  have hl : lv_has ls 4 [(0, .ref x), (1, .int (nI s))] := hl
  refine lv_iconst (v := nI 0) hx hb dX7_sumOf_0 (by decide) ?_
  refine lv_istore_n (lv' := [(2, .int (nI 0)), (0, .ref x), (1, .int (nI s))]) hx hb dX7_sumOf_1 rfl hl (by decide) rfl (fun ls hl => ?_)
  refine lv_iconst (v := nI 1) hx hb dX7_sumOf_2 (by decide) ?_
  refine lv_istore_n (lv' := [(3, .int (nI 1)), (2, .int (nI 0)), (0, .ref x), (1, .int (nI s))]) hx hb dX7_sumOf_3 rfl hl (by decide) rfl (fun ls hl => ?_)
  have L4_1 : ∀ (fuelZ : Nat) (g : Nat), 13 - g < fuelZ → (1 ≤ g) → (g ≤ 13) → ∀ ls : Array Slot, lv_has ls 4 [(3, .int (nI g)), (2, .int (nI (sumA (mAm M) s (g - 1)))), (0, .ref x), (1, .int (nI s))] → W pZ l eZ ({ frames := 1, cells := 0, slots := 0, locals := 22 }) sZ mZ argsZ belowZ methZ cZ sZ.heap [] 0 0 QZ (F0 mZ 4 ls []) := by
    intro fuelZ
    induction fuelZ with
    | zero => intro g hm; exact absurd hm (Nat.not_lt_zero _)
    | succ fuelZ ih4 =>
      intro g hm i0 i1 ls hl
      refine lv_iload_n hx hb dX7_sumOf_4 rfl (lv_at hl 0 rfl) ?_
      refine lv_bipush (v := nI 12) hx hb dX7_sumOf_5 (by decide) ?_
      refine z_icmp_gt (a := g) (b := 12) (tgt := 25) hx hb dX7_sumOf_7 (by decide) (by omega) (by omega) (fun c2 => ?_) (fun c2 => ?_)
      · -- 7 t
        refine lv_iload_n hx hb dX7_sumOf_25 rfl (lv_at hl 1 rfl) ?_
        exact hret _ _ _ dX7_sumOf_26 (by rw [show g = 13 by omega])
      · -- 7 f
        refine lv_iload_n hx hb dX7_sumOf_10 rfl (lv_at hl 1 rfl) ?_
        refine lv_aload_n hx hb dX7_sumOf_11 rfl (lv_at hl 2 rfl) ?_
        refine lv_iload_n hx hb dX7_sumOf_12 rfl (lv_at hl 3 rfl) ?_
        refine lv_iload_n hx hb dX7_sumOf_13 rfl (lv_at hl 0 rfl) ?_
        have hPc := zP_sub (w := [(x, .inr (7, [.ref ms, .ref mp, .int (nI pz), .ref mt, .int (nI len), .ref md, .int (nI sp), .int q1, .int q2, .int q3, .int q4, .int q5, .int (nI fm)])), (ms, .inl (E.2.1, 265, .inl (fun zz => nI (M zz))))]) hP [0, 1] rfl
        refine z_rd (fun _ h => h) (va_runV (As := [.int (nI s), .int (nI g)]) (rest := [.int (nI (sumA (mAm M) s (g - 1)))]) hF (c_X7_loud l E x ms mp mt md pz len sp fm s g q1 q2 q3 q4 q5 M (by first | assumption | omega) (by first | assumption | omega) (by first | assumption | omega)) (cwV 2 hts gX7_sumOf_X7_loud rfl rfl rfl (by decide +kernel) ⟨Nat.le_of_ble_eq_true rfl, Nat.le_of_ble_eq_true rfl⟩) (z_preRV (va_recv hG.1 hP (ci := 7) (q0 := 0) rfl rfl) hPc hG) rfl rfl hl.1 rfl (lv_room (Nat.le_of_ble_eq_true rfl)) dX7_sumOf_14 ⟨Nat.zero_le _, Nat.zero_le _⟩) (fun r3 hr3 => ?_)
        subst hr3
        refine z_iadd (a := sumA (mAm M) s (g - 1)) (b := M (61 + 12 * s + g - 1)) hx hb dX7_sumOf_17 ?_
        refine lv_istore_n (lv' := [(2, .int (nI ((sumA (mAm M) s (g - 1)) + (M (61 + 12 * s + g - 1))))), (3, .int (nI g)), (0, .ref x), (1, .int (nI s))]) hx hb dX7_sumOf_18 rfl hl (by decide) rfl (fun ls hl => ?_)
        refine z_iinc (k := 1) (d := 1) (lv' := [(3, .int (nI (g + 1))), (2, .int (nI ((sumA (mAm M) s (g - 1)) + (M (61 + 12 * s + g - 1))))), (0, .ref x), (1, .int (nI s))]) hx hb dX7_sumOf_19 (by decide) hl rfl (by decide) rfl (fun ls hl => ?_)
        refine lv_goto (tgt := 4) hx hb dX7_sumOf_22 (by decide) ?_
        have e4 : nI ((sumA (mAm M) s (g - 1)) + (M (61 + 12 * s + g - 1))) = nI (sumA (mAm M) s ((g + 1) - 1)) := by rw [sum_t i0]
        have hl : lv_has ls 4 [(3, .int (nI (g + 1))), (2, .int (nI (sumA (mAm M) s ((g + 1) - 1)))), (0, .ref x), (1, .int (nI s))] := Eq.subst (motive := fun XX : Int32 => lv_has ls 4 [(3, .int (nI (g + 1))), (2, .int XX), (0, .ref x), (1, .int (nI s))]) e4 hl
        exact ih4 (g + 1) (by omega) (by omega) (by omega) _ (lv_sub hl [0, 1, 2, 3] rfl)
  have e5 : nI 0 = nI (sumA (mAm M) s (1 - 1)) := by rfl
  have hl : lv_has ls 4 [(3, .int (nI 1)), (2, .int (nI (sumA (mAm M) s (1 - 1)))), (0, .ref x), (1, .int (nI s))] := Eq.subst (motive := fun XX : Int32 => lv_has ls 4 [(3, .int (nI 1)), (2, .int XX), (0, .ref x), (1, .int (nI s))]) e5 hl
  exact L4_1 ((13 - 1) + 1) 1 (Nat.lt_succ_self _) (by omega) (by omega) _ (lv_sub hl [0, 1, 2, 3] rfl)
set_option maxHeartbeats 1000000 in
set_option maxRecDepth 100000 in
theorem c_X7_pitch (l : Launch) (E : zE) (x ms mp mt md pz len sp fm s n : Nat) (q1 q2 q3 q4 q5 : Int32) (M : Nat → Nat) (hn : M 0 ≤ 12) (hPb : ∀ i, i < 12 → mP M i ≤ 2400) (hHb : ∀ i, i < 12 → mH M i ≤ 2000) (hprn : ∀ i, i < 4 → mPr M i ≤ M 0) (hs : s < 4) (hm1 : 1 ≤ n) (hm2 : n ≤ 12) (hte : ∀ i, i < 4 → mT M i ≤ 100000000) : zR l yX7_pitch wsX7_pitch ({ frames := 6, cells := 0, slots := 0, locals := 135 }) E [.ref x, .int (nI s), .int (nI n)] [(x, .inr (7, [.ref ms, .ref mp, .int (nI pz), .ref mt, .int (nI len), .ref md, .int (nI sp), .int q1, .int q2, .int q3, .int q4, .int q5, .int (nI fm)])), (ms, .inl (E.2.1, 265, .inl (fun zz => nI (M zz))))] (fun r => r = nI (pitch (mT M) (mSt M) s n)) := by
  refine zR.start (own := RX7) rfl (by decide +kernel) rfl (Nat.le_of_ble_eq_true rfl) (fun _ _ => rfl) ?_
  intro pZ eZ sZ mZ argsZ belowZ methZ cZ QZ hF hret hP hG ls hl
  obtain ⟨hx, hb, hml, hown, hts⟩ := id hF
  have hl : lv_has ls 3 [(0, .ref x), (1, .int (nI s)), (2, .int (nI n))] := hl
  have hsb : mSt M s ≤ 2400 := mSt_le hn hPb hprn hs
  refine lv_iload_n hx hb dX7_pitch_0 rfl (lv_at hl 2 rfl) ?_
  refine lv_aload_n hx hb dX7_pitch_1 rfl (lv_at hl 0 rfl) ?_
  refine lv_iload_n hx hb dX7_pitch_2 rfl (lv_at hl 1 rfl) ?_
  refine lv_iconst (v := nI 0) hx hb dX7_pitch_3 (by decide) ?_
  have hPc := zP_sub (w := [(x, .inr (7, [.ref ms, .ref mp, .int (nI pz), .ref mt, .int (nI len), .ref md, .int (nI sp), .int q1, .int q2, .int q3, .int q4, .int q5, .int (nI fm)])), (ms, .inl (E.2.1, 265, .inl (fun zz => nI (M zz))))]) hP [0, 1] rfl
  refine z_rd (fun _ h => h) (va_runV (As := [.int (nI s), .int (nI 0)]) (rest := [.int (nI n)]) hF (c_X7_of l E x ms mp mt md pz len sp fm s 0 q1 q2 q3 q4 q5 M (by first | assumption | omega) (by first | assumption | omega)) (cwV 2 hts gX7_pitch_X7_of rfl rfl rfl (by decide +kernel) ⟨Nat.le_of_ble_eq_true rfl, Nat.le_of_ble_eq_true rfl⟩) (z_preRV (va_recv hG.1 hP (ci := 7) (q0 := 0) rfl rfl) hPc hG) rfl rfl hl.1 rfl (lv_room (Nat.le_of_ble_eq_true rfl)) dX7_pitch_4 ⟨Nat.zero_le _, Nat.zero_le _⟩) (fun r1 hr1 => ?_)
  subst hr1
  have hnt : n * M (45 + 4 * s + 0) ≤ 12 * 100000000 := Nat.mul_le_mul hm2 (hte s hs)
  have hnt2 : n * M (45 + 4 * s) ≤ 12 * 100000000 := hnt
  refine z_imul (a := n) (b := M (45 + 4 * s + 0)) hx hb dX7_pitch_7 ?_
  refine lv_aload_n hx hb dX7_pitch_8 rfl (lv_at hl 0 rfl) ?_
  refine lv_iload_n hx hb dX7_pitch_9 rfl (lv_at hl 1 rfl) ?_
  have hPc := zP_sub (w := [(x, .inr (7, [.ref ms, .ref mp, .int (nI pz), .ref mt, .int (nI len), .ref md, .int (nI sp), .int q1, .int q2, .int q3, .int q4, .int q5, .int (nI fm)])), (ms, .inl (E.2.1, 265, .inl (fun zz => nI (M zz))))]) hP [0, 1] rfl
  refine z_rd (fun _ h => h) (va_runV (As := [.int (nI s)]) (rest := [.int (nI (n * (M (45 + 4 * s + 0))))]) hF (c_X7_lengthOf l E x ms mp mt md pz len sp fm s q1 q2 q3 q4 q5 M (by first | assumption | omega) (by first | assumption | omega) (by first | assumption | omega) (by first | assumption | omega) (by first | assumption | omega)) (cwV 1 hts gX7_pitch_X7_lengthOf rfl rfl rfl (by decide +kernel) ⟨Nat.le_of_ble_eq_true rfl, Nat.le_of_ble_eq_true rfl⟩) (z_preRV (va_recv hG.1 hP (ci := 7) (q0 := 0) rfl rfl) hPc hG) rfl rfl hl.1 rfl (lv_room (Nat.le_of_ble_eq_true rfl)) dX7_pitch_10 ⟨Nat.zero_le _, Nat.zero_le _⟩) (fun r2 hr2 => ?_)
  subst hr2
  refine z_idiv (a := n * (M (45 + 4 * s + 0))) (b := 2520 - mSt M s) hx hb dX7_pitch_13 (by omega) (by omega) (by omega) ?_
  exact hret _ _ _ dX7_pitch_14 (rfl)
set_option maxHeartbeats 1000000 in
set_option maxRecDepth 100000 in
theorem c_X7_hasNode (l : Launch) (E : zE) (x ms mp mt md pz len sp fm s n y : Nat) (q1 q2 q3 q4 q5 : Int32) (M : Nat → Nat) (hn : M 0 ≤ 12) (hPb : ∀ i, i < 12 → mP M i ≤ 2400) (hHb : ∀ i, i < 12 → mH M i ≤ 2000) (hprn : ∀ i, i < 4 → mPr M i ≤ M 0) (hs : s < 4) (hm1 : 1 ≤ n) (hm2 : n ≤ 12) (hx1 : mSt M s < y) (hx2 : y ≤ 2520) : zR l yX7_hasNode wsX7_hasNode ({ frames := 6, cells := 0, slots := 0, locals := 135 }) E [.ref x, .int (nI s), .int (nI n), .int (nI y)] [(x, .inr (7, [.ref ms, .ref mp, .int (nI pz), .ref mt, .int (nI len), .ref md, .int (nI sp), .int q1, .int q2, .int q3, .int q4, .int q5, .int (nI fm)])), (ms, .inl (E.2.1, 265, .inl (fun zz => nI (M zz))))] (fun r => (r = nI 1 ∧ (n * (y - mSt M s) % (2520 - mSt M s) = 0)) ∨ (r = nI 0 ∧ ¬ (n * (y - mSt M s) % (2520 - mSt M s) = 0))) := by
  refine zR.start (own := RX7) rfl (by decide +kernel) rfl (Nat.le_of_ble_eq_true rfl) (z_nar) ?_
  intro pZ eZ sZ mZ argsZ belowZ methZ cZ QZ hF hret hP hG ls hl
  obtain ⟨hx, hb, hml, hown, hts⟩ := id hF
  have hl : lv_has ls 4 [(0, .ref x), (1, .int (nI s)), (2, .int (nI n)), (3, .int (nI y))] := hl
  have hsb : mSt M s ≤ 2400 := mSt_le hn hPb hprn hs
  refine lv_iload_n hx hb dX7_hasNode_0 rfl (lv_at hl 2 rfl) ?_
  refine lv_iload_n hx hb dX7_hasNode_1 rfl (lv_at hl 3 rfl) ?_
  refine lv_aload_n hx hb dX7_hasNode_2 rfl (lv_at hl 0 rfl) ?_
  refine lv_iload_n hx hb dX7_hasNode_3 rfl (lv_at hl 1 rfl) ?_
  have hPc := zP_sub (w := [(x, .inr (7, [.ref ms, .ref mp, .int (nI pz), .ref mt, .int (nI len), .ref md, .int (nI sp), .int q1, .int q2, .int q3, .int q4, .int q5, .int (nI fm)])), (ms, .inl (E.2.1, 265, .inl (fun zz => nI (M zz))))]) hP [0, 1] rfl
  refine z_rd (fun _ h => h) (va_runV (As := [.int (nI s)]) (rest := [.int (nI y), .int (nI n)]) hF (c_X7_positionOf l E x ms mp mt md pz len sp fm s q1 q2 q3 q4 q5 M (by first | assumption | omega) (by first | assumption | omega) (by first | assumption | omega) (by first | assumption | omega) (by first | assumption | omega)) (cwV 1 hts gX7_hasNode_X7_positionOf rfl rfl rfl (by decide +kernel) ⟨Nat.le_of_ble_eq_true rfl, Nat.le_of_ble_eq_true rfl⟩) (z_preRV (va_recv hG.1 hP (ci := 7) (q0 := 0) rfl rfl) hPc hG) rfl rfl hl.1 rfl (lv_room (Nat.le_of_ble_eq_true rfl)) dX7_hasNode_4 ⟨Nat.zero_le _, Nat.zero_le _⟩) (fun r1 hr1 => ?_)
  subst hr1
  refine z_isub (a := y) (b := mSt M s) hx hb dX7_hasNode_7 (by omega) ?_
  have hnx : n * (y - mSt M s) ≤ 12 * 2520 := Nat.mul_le_mul hm2 (by omega)
  refine z_imul (a := n) (b := y - (mSt M s)) hx hb dX7_hasNode_8 ?_
  refine lv_aload_n hx hb dX7_hasNode_9 rfl (lv_at hl 0 rfl) ?_
  refine lv_iload_n hx hb dX7_hasNode_10 rfl (lv_at hl 1 rfl) ?_
  have hPc := zP_sub (w := [(x, .inr (7, [.ref ms, .ref mp, .int (nI pz), .ref mt, .int (nI len), .ref md, .int (nI sp), .int q1, .int q2, .int q3, .int q4, .int q5, .int (nI fm)])), (ms, .inl (E.2.1, 265, .inl (fun zz => nI (M zz))))]) hP [0, 1] rfl
  refine z_rd (fun _ h => h) (va_runV (As := [.int (nI s)]) (rest := [.int (nI (n * (y - (mSt M s))))]) hF (c_X7_lengthOf l E x ms mp mt md pz len sp fm s q1 q2 q3 q4 q5 M (by first | assumption | omega) (by first | assumption | omega) (by first | assumption | omega) (by first | assumption | omega) (by first | assumption | omega)) (cwV 1 hts gX7_hasNode_X7_lengthOf rfl rfl rfl (by decide +kernel) ⟨Nat.le_of_ble_eq_true rfl, Nat.le_of_ble_eq_true rfl⟩) (z_preRV (va_recv hG.1 hP (ci := 7) (q0 := 0) rfl rfl) hPc hG) rfl rfl hl.1 rfl (lv_room (Nat.le_of_ble_eq_true rfl)) dX7_hasNode_11 ⟨Nat.zero_le _, Nat.zero_le _⟩) (fun r2 hr2 => ?_)
  subst hr2
  refine z_irem (a := n * (y - (mSt M s))) (b := 2520 - mSt M s) hx hb dX7_hasNode_14 (by omega) (by omega) (by omega) ?_
  have hml2 := Nat.mod_lt (n * (y - mSt M s)) (show 0 < 2520 - mSt M s by omega)
  refine z_if_ne (a := (n * (y - (mSt M s))) % (2520 - mSt M s)) (tgt := 22) hx hb dX7_hasNode_15 (by decide) (by omega) (fun c3 => ?_) (fun c3 => ?_)
  · -- 15 t
    refine lv_iconst (v := nI 0) hx hb dX7_hasNode_22 (by decide) ?_
    exact hret _ _ _ dX7_hasNode_23 (Or.inr ⟨rfl, by omega⟩)
  · -- 15 f
    refine lv_iconst (v := nI 1) hx hb dX7_hasNode_18 (by decide) ?_
    refine lv_goto (tgt := 23) hx hb dX7_hasNode_19 (by decide) ?_
    exact hret _ _ _ dX7_hasNode_23 (Or.inl ⟨rfl, by omega⟩)
set_option maxHeartbeats 1000000 in
set_option maxRecDepth 100000 in
theorem c_X7_nodes (l : Launch) (E : zE) (x ms mp mt md pz len sp fm s n : Nat) (q1 q2 q3 q4 q5 : Int32) (M : Nat → Nat) (hn : M 0 ≤ 12) (hPb : ∀ i, i < 12 → mP M i ≤ 2400) (hHb : ∀ i, i < 12 → mH M i ≤ 2000) (hprn : ∀ i, i < 4 → mPr M i ≤ M 0) (hs : s < 4) (hm1 : 1 ≤ n) (hm2 : n ≤ 12) : zR l yX7_nodes wsX7_nodes ({ frames := 7, cells := 0, slots := 0, locals := 158 }) E [.ref x, .int (nI s), .int (nI n)] [(x, .inr (7, [.ref ms, .ref mp, .int (nI pz), .ref mt, .int (nI len), .ref md, .int (nI sp), .int q1, .int q2, .int q3, .int q4, .int q5, .int (nI fm)])), (ms, .inl (E.2.1, 265, .inl (fun zz => nI (M zz))))] (fun r => r = nI (cnL n (2520 - mSt M s) (2519 - mSt M s))) := by
  refine zR.start (own := RX7) rfl (by decide +kernel) rfl (Nat.le_of_ble_eq_true rfl) (fun _ _ => rfl) ?_
  intro pZ eZ sZ mZ argsZ belowZ methZ cZ QZ hF hret hP hG ls hl
  obtain ⟨hx, hb, hml, hown, hts⟩ := id hF
  have hl : lv_has ls 5 [(0, .ref x), (1, .int (nI s)), (2, .int (nI n))] := hl
  have hsb : mSt M s ≤ 2400 := mSt_le hn hPb hprn hs
  refine lv_iconst (v := nI 0) hx hb dX7_nodes_0 (by decide) ?_
  refine lv_istore_n (lv' := [(3, .int (nI 0)), (0, .ref x), (1, .int (nI s)), (2, .int (nI n))]) hx hb dX7_nodes_1 rfl hl (by decide) rfl (fun ls hl => ?_)
  refine lv_aload_n hx hb dX7_nodes_2 rfl (lv_at hl 1 rfl) ?_
  refine lv_iload_n hx hb dX7_nodes_3 rfl (lv_at hl 2 rfl) ?_
  have hPc := zP_sub (w := [(x, .inr (7, [.ref ms, .ref mp, .int (nI pz), .ref mt, .int (nI len), .ref md, .int (nI sp), .int q1, .int q2, .int q3, .int q4, .int q5, .int (nI fm)])), (ms, .inl (E.2.1, 265, .inl (fun zz => nI (M zz))))]) hP [0, 1] rfl
  refine z_rd (fun _ h => h) (va_runV (As := [.int (nI s)]) (rest := []) hF (c_X7_positionOf l E x ms mp mt md pz len sp fm s q1 q2 q3 q4 q5 M (by first | assumption | omega) (by first | assumption | omega) (by first | assumption | omega) (by first | assumption | omega) (by first | assumption | omega)) (cwV 1 hts gX7_nodes_X7_positionOf rfl rfl rfl (by decide +kernel) ⟨Nat.le_of_ble_eq_true rfl, Nat.le_of_ble_eq_true rfl⟩) (z_preRV (va_recv hG.1 hP (ci := 7) (q0 := 0) rfl rfl) hPc hG) rfl rfl hl.1 rfl (lv_room (Nat.le_of_ble_eq_true rfl)) dX7_nodes_4 ⟨Nat.zero_le _, Nat.zero_le _⟩) (fun r1 hr1 => ?_)
  subst hr1
  refine lv_iconst (v := nI 1) hx hb dX7_nodes_7 (by decide) ?_
  refine z_iadd (a := mSt M s) (b := 1) hx hb dX7_nodes_8 ?_
  refine lv_istore (lv' := [(4, .int (nI ((mSt M s) + 1))), (3, .int (nI 0)), (0, .ref x), (1, .int (nI s)), (2, .int (nI n))]) hx hb dX7_nodes_9 hl (by decide) rfl (fun ls hl => ?_)
  have L11_2 : ∀ (fuelZ : Nat) (g : Nat), 2520 - g < fuelZ → (mSt M s + 1 ≤ g) → (g ≤ 2520) → ∀ ls : Array Slot, lv_has ls 5 [(4, .int (nI g)), (3, .int (nI (cnL n (2520 - mSt M s) (g - 1 - mSt M s)))), (0, .ref x), (1, .int (nI s)), (2, .int (nI n))] → W pZ l eZ ({ frames := 7, cells := 0, slots := 0, locals := 158 }) sZ mZ argsZ belowZ methZ cZ sZ.heap [] 0 0 QZ (F0 mZ 11 ls []) := by
    intro fuelZ
    induction fuelZ with
    | zero => intro g hm; exact absurd hm (Nat.not_lt_zero _)
    | succ fuelZ ih11 =>
      intro g hm i0 i1 ls hl
      refine lv_iload hx hb dX7_nodes_11 (lv_at hl 0 rfl) ?_
      refine lv_sipush (v := nI 2520) hx hb dX7_nodes_13 (by decide) ?_
      refine z_icmp_ge (a := g) (b := 2520) (tgt := 44) hx hb dX7_nodes_16 (by decide) (by omega) (by omega) (fun c3 => ?_) (fun c3 => ?_)
      · -- 16 t
        refine lv_iload_n hx hb dX7_nodes_44 rfl (lv_at hl 1 rfl) ?_
        exact hret _ _ _ dX7_nodes_45 (by rw [show g - 1 = 2519 by omega])
      · -- 16 f
        refine lv_iload_n hx hb dX7_nodes_19 rfl (lv_at hl 1 rfl) ?_
        refine lv_aload_n hx hb dX7_nodes_20 rfl (lv_at hl 2 rfl) ?_
        refine lv_iload_n hx hb dX7_nodes_21 rfl (lv_at hl 3 rfl) ?_
        refine lv_iload_n hx hb dX7_nodes_22 rfl (lv_at hl 4 rfl) ?_
        refine lv_iload hx hb dX7_nodes_23 (lv_at hl 0 rfl) ?_
        have hPc := zP_sub (w := [(x, .inr (7, [.ref ms, .ref mp, .int (nI pz), .ref mt, .int (nI len), .ref md, .int (nI sp), .int q1, .int q2, .int q3, .int q4, .int q5, .int (nI fm)])), (ms, .inl (E.2.1, 265, .inl (fun zz => nI (M zz))))]) hP [0, 1] rfl
        refine z_rd (fun _ h => h) (va_runV (As := [.int (nI s), .int (nI n), .int (nI g)]) (rest := [.int (nI (cnL n (2520 - mSt M s) (g - 1 - mSt M s)))]) hF (c_X7_hasNode l E x ms mp mt md pz len sp fm s n g q1 q2 q3 q4 q5 M (by first | assumption | omega) (by first | assumption | omega) (by first | assumption | omega) (by first | assumption | omega) (by first | assumption | omega) (by first | assumption | omega) (by first | assumption | omega) (by first | assumption | omega) (by first | assumption | omega)) (cwV 3 hts gX7_nodes_X7_hasNode rfl rfl rfl (by decide +kernel) ⟨Nat.le_of_ble_eq_true rfl, Nat.le_of_ble_eq_true rfl⟩) (z_preRV (va_recv hG.1 hP (ci := 7) (q0 := 0) rfl rfl) hPc hG) rfl rfl hl.1 rfl (lv_room (Nat.le_of_ble_eq_true rfl)) dX7_nodes_25 ⟨Nat.zero_le _, Nat.zero_le _⟩) (fun r4 hr4 => ?_)
        rcases hr4 with ⟨rfl, c5⟩ | ⟨rfl, c5⟩
        · -- 25 t
          refine lv_if_eq (tgt := 35) hx hb dX7_nodes_28 (by decide) (fun c => absurd c (by decide)) (fun _ => ?_)
          refine lv_iconst (v := nI 1) hx hb dX7_nodes_31 (by decide) ?_
          refine lv_goto (tgt := 36) hx hb dX7_nodes_32 (by decide) ?_
          refine z_iadd (a := cnL n (2520 - mSt M s) (g - 1 - mSt M s)) (b := 1) hx hb dX7_nodes_36 ?_
          refine lv_istore_n (lv' := [(3, .int (nI ((cnL n (2520 - mSt M s) (g - 1 - mSt M s)) + 1))), (4, .int (nI g)), (0, .ref x), (1, .int (nI s)), (2, .int (nI n))]) hx hb dX7_nodes_37 rfl hl (by decide) rfl (fun ls hl => ?_)
          refine z_iinc (k := 1) (d := 1) (lv' := [(4, .int (nI (g + 1))), (3, .int (nI ((cnL n (2520 - mSt M s) (g - 1 - mSt M s)) + 1))), (0, .ref x), (1, .int (nI s)), (2, .int (nI n))]) hx hb dX7_nodes_38 (by decide) hl rfl (by decide) rfl (fun ls hl => ?_)
          refine lv_goto (tgt := 11) hx hb dX7_nodes_41 (by decide) ?_
          have e6 : nI ((cnL n (2520 - mSt M s) (g - 1 - mSt M s)) + 1) = nI (cnL n (2520 - mSt M s) ((g + 1) - 1 - mSt M s)) := by rw [show g + 1 - 1 - mSt M s = (g - 1 - mSt M s) + 1 by omega]; simp only [cnL]; rw [show g - 1 - mSt M s + 1 = g - mSt M s by omega]; first | rw [if_pos (by assumption)] | rw [if_neg (by assumption)]
          have hl : lv_has ls 5 [(4, .int (nI (g + 1))), (3, .int (nI (cnL n (2520 - mSt M s) ((g + 1) - 1 - mSt M s)))), (0, .ref x), (1, .int (nI s)), (2, .int (nI n))] := Eq.subst (motive := fun XX : Int32 => lv_has ls 5 [(4, .int (nI (g + 1))), (3, .int XX), (0, .ref x), (1, .int (nI s)), (2, .int (nI n))]) e6 hl
          exact ih11 (g + 1) (by omega) (by omega) (by omega) _ (lv_sub hl [0, 1, 2, 3, 4] rfl)
        · -- 25 f
          refine lv_if_eq (tgt := 35) hx hb dX7_nodes_28 (by decide) (fun _ => ?_) (fun c => absurd c (by decide))
          refine lv_iconst (v := nI 0) hx hb dX7_nodes_35 (by decide) ?_
          refine z_iadd (a := cnL n (2520 - mSt M s) (g - 1 - mSt M s)) (b := 0) hx hb dX7_nodes_36 ?_
          refine lv_istore_n (lv' := [(3, .int (nI ((cnL n (2520 - mSt M s) (g - 1 - mSt M s)) + 0))), (4, .int (nI g)), (0, .ref x), (1, .int (nI s)), (2, .int (nI n))]) hx hb dX7_nodes_37 rfl hl (by decide) rfl (fun ls hl => ?_)
          refine z_iinc (k := 1) (d := 1) (lv' := [(4, .int (nI (g + 1))), (3, .int (nI ((cnL n (2520 - mSt M s) (g - 1 - mSt M s)) + 0))), (0, .ref x), (1, .int (nI s)), (2, .int (nI n))]) hx hb dX7_nodes_38 (by decide) hl rfl (by decide) rfl (fun ls hl => ?_)
          refine lv_goto (tgt := 11) hx hb dX7_nodes_41 (by decide) ?_
          have e7 : nI ((cnL n (2520 - mSt M s) (g - 1 - mSt M s)) + 0) = nI (cnL n (2520 - mSt M s) ((g + 1) - 1 - mSt M s)) := by rw [show g + 1 - 1 - mSt M s = (g - 1 - mSt M s) + 1 by omega]; simp only [cnL]; rw [show g - 1 - mSt M s + 1 = g - mSt M s by omega]; first | rw [if_pos (by assumption)] | rw [if_neg (by assumption)]
          have hl : lv_has ls 5 [(4, .int (nI (g + 1))), (3, .int (nI (cnL n (2520 - mSt M s) ((g + 1) - 1 - mSt M s)))), (0, .ref x), (1, .int (nI s)), (2, .int (nI n))] := Eq.subst (motive := fun XX : Int32 => lv_has ls 5 [(4, .int (nI (g + 1))), (3, .int XX), (0, .ref x), (1, .int (nI s)), (2, .int (nI n))]) e7 hl
          exact ih11 (g + 1) (by omega) (by omega) (by omega) _ (lv_sub hl [0, 1, 2, 3, 4] rfl)
  have e8 : nI 0 = nI (cnL n (2520 - mSt M s) (((mSt M s) + 1) - 1 - mSt M s)) := by rw [show mSt M s + 1 - 1 - mSt M s = 0 by omega]; rfl
  have hl : lv_has ls 5 [(4, .int (nI ((mSt M s) + 1))), (3, .int (nI (cnL n (2520 - mSt M s) (((mSt M s) + 1) - 1 - mSt M s)))), (0, .ref x), (1, .int (nI s)), (2, .int (nI n))] := Eq.subst (motive := fun XX : Int32 => lv_has ls 5 [(4, .int (nI ((mSt M s) + 1))), (3, .int XX), (0, .ref x), (1, .int (nI s)), (2, .int (nI n))]) e8 hl
  exact L11_2 ((2520 - ((mSt M s) + 1)) + 1) ((mSt M s) + 1) (Nat.lt_succ_self _) (by omega) (by omega) _ (lv_sub hl [0, 1, 2, 3, 4] rfl)
set_option maxHeartbeats 1000000 in
set_option maxRecDepth 100000 in
theorem c_X7_divisor (l : Launch) (E : zE) (a b : Nat) (ha : a ≤ 2520) (hb0 : b ≤ 2520) : zR l yX7_divisor wsX7_divisor ({ frames := 0, cells := 0, slots := 0, locals := 0 }) E [.int (nI a), .int (nI b)] [] (fun r => r = nI (Nat.gcd a b)) := by
  refine zR.start (own := RX7) rfl (by decide +kernel) rfl (Nat.le_of_ble_eq_true rfl) (fun _ _ => rfl) ?_
  intro pZ eZ sZ mZ argsZ belowZ methZ cZ QZ hF hret hP hG ls hl
  obtain ⟨hx, hb, hml, hown, hts⟩ := id hF
  have hl : lv_has ls 5 [(0, .int (nI a)), (1, .int (nI b))] := hl
  refine lv_iload_n hx hb dX7_divisor_0 rfl (lv_at hl 0 rfl) ?_
  refine lv_istore_n (lv' := [(2, .int (nI a)), (0, .int (nI a)), (1, .int (nI b))]) hx hb dX7_divisor_1 rfl hl (by decide) rfl (fun ls hl => ?_)
  refine lv_iload_n hx hb dX7_divisor_2 rfl (lv_at hl 2 rfl) ?_
  refine lv_istore_n (lv' := [(3, .int (nI b)), (2, .int (nI a)), (0, .int (nI a)), (1, .int (nI b))]) hx hb dX7_divisor_3 rfl hl (by decide) rfl (fun ls hl => ?_)
  have L4_1 : ∀ (fuelZ : Nat) (dd : Nat) (rr : Nat), rr < fuelZ → (Nat.gcd dd rr = Nat.gcd a b) → (dd ≤ 2520 ∧ rr ≤ 2520) → ∀ ls : Array Slot, lv_has ls 5 [(3, .int (nI rr)), (2, .int (nI dd)), (0, .int (nI a)), (1, .int (nI b))] → W pZ l eZ ({ frames := 0, cells := 0, slots := 0, locals := 0 }) sZ mZ argsZ belowZ methZ cZ sZ.heap [] 0 0 QZ (F0 mZ 4 ls []) := by
    intro fuelZ
    induction fuelZ with
    | zero => intro dd rr hm; exact absurd hm (Nat.not_lt_zero _)
    | succ fuelZ ih4 =>
      intro dd rr hm i1 i4 ls hl
      refine lv_iload_n hx hb dX7_divisor_4 rfl (lv_at hl 0 rfl) ?_
      refine z_if_le (a := rr) (tgt := 21) hx hb dX7_divisor_5 (by decide) (by omega) (fun c2 => ?_) (fun c2 => ?_)
      · -- 5 t
        refine lv_iload_n hx hb dX7_divisor_21 rfl (lv_at hl 1 rfl) ?_
        exact hret _ _ _ dX7_divisor_22 (by have hr0 : rr = 0 := (by assumption); rw [← i1, hr0, Nat.gcd_zero_right])
      · -- 5 f
        refine lv_iload_n hx hb dX7_divisor_8 rfl (lv_at hl 1 rfl) ?_
        refine lv_iload_n hx hb dX7_divisor_9 rfl (lv_at hl 0 rfl) ?_
        refine z_irem (a := dd) (b := rr) hx hb dX7_divisor_10 (by omega) (by omega) (by omega) ?_
        refine lv_istore (lv' := [(4, .int (nI (dd % rr))), (3, .int (nI rr)), (2, .int (nI dd)), (0, .int (nI a)), (1, .int (nI b))]) hx hb dX7_divisor_11 hl (by decide) rfl (fun ls hl => ?_)
        refine lv_iload_n hx hb dX7_divisor_13 rfl (lv_at hl 1 rfl) ?_
        refine lv_istore_n (lv' := [(2, .int (nI rr)), (4, .int (nI (dd % rr))), (3, .int (nI rr)), (0, .int (nI a)), (1, .int (nI b))]) hx hb dX7_divisor_14 rfl hl (by decide) rfl (fun ls hl => ?_)
        refine lv_iload hx hb dX7_divisor_15 (lv_at hl 1 rfl) ?_
        refine lv_istore_n (lv' := [(3, .int (nI (dd % rr))), (2, .int (nI rr)), (4, .int (nI (dd % rr))), (0, .int (nI a)), (1, .int (nI b))]) hx hb dX7_divisor_17 rfl hl (by decide) rfl (fun ls hl => ?_)
        refine lv_goto (tgt := 4) hx hb dX7_divisor_18 (by decide) ?_
        exact ih4 rr (dd % rr) (by have := Nat.mod_lt dd (show 0 < rr by omega); omega) (by rw [Nat.gcd_comm, ← Nat.gcd_rec, Nat.gcd_comm]; exact i1) (⟨i4.2, Nat.le_trans (Nat.le_of_lt (Nat.mod_lt _ (by omega))) i4.2⟩) _ (lv_sub hl [0, 1, 3, 4] rfl)
  exact L4_1 (b + 1) a b (Nat.lt_succ_self _) (rfl) (by omega) _ (lv_sub hl [0, 1, 2, 3] rfl)
set_option maxHeartbeats 1000000 in
set_option maxRecDepth 100000 in
theorem c_X7_isPlace (l : Launch) (E : zE) (a b v : Int32)  : zR l yX7_isPlace wsX7_isPlace ({ frames := 2, cells := 0, slots := 0, locals := 42 }) E [.int a, .int b, .int v] [] (fun r => (r = nI 1 ∧ ((nI 0 ≤ a ∧ a ≤ nI 3) ∧ (nI 1 ≤ b ∧ b ≤ nI 12) ∧ (nI 1 ≤ v ∧ v ≤ nI 2519))) ∨ (r = nI 0 ∧ ¬ ((nI 0 ≤ a ∧ a ≤ nI 3) ∧ (nI 1 ≤ b ∧ b ≤ nI 12) ∧ (nI 1 ≤ v ∧ v ≤ nI 2519)))) := by
  refine zR.start (own := RX7) rfl (by decide +kernel) rfl (Nat.le_of_ble_eq_true rfl) (z_nar) ?_
  intro pZ eZ sZ mZ argsZ belowZ methZ cZ QZ hF hret hP hG ls hl
  obtain ⟨hx, hb, hml, hown, hts⟩ := id hF
  have hl : lv_has ls 3 [(0, .int a), (1, .int b), (2, .int v)] := hl
  refine lv_iload_n hx hb dX7_isPlace_0 rfl (lv_at hl 0 rfl) ?_
  refine z_rd (fun _ h => h) (va_runS (As := [.int a]) (rest := []) hF (c_X7_isString l E a ) (va_cwS 1 hts gX7_isPlace_X7_isString rfl rfl rfl (by decide +kernel) ⟨Nat.le_of_ble_eq_true rfl, Nat.le_of_ble_eq_true rfl⟩) (z_preR (fun k q h => by simp at h) hG) rfl rfl hl.1 rfl (lv_room (Nat.le_of_ble_eq_true rfl)) dX7_isPlace_1 ⟨Nat.zero_le _, Nat.zero_le _⟩) (fun r1 hr1 => ?_)
  rcases hr1 with ⟨rfl, c2⟩ | ⟨rfl, c2⟩
  · -- 1 t
    refine lv_if_eq (tgt := 29) hx hb dX7_isPlace_4 (by decide) (fun c => absurd c (by decide)) (fun _ => ?_)
    refine lv_iload_n hx hb dX7_isPlace_7 rfl (lv_at hl 1 rfl) ?_
    refine z_rd (fun _ h => h) (va_runS (As := [.int b]) (rest := []) hF (c_X7_isMode l E b ) (va_cwS 1 hts gX7_isPlace_X7_isMode rfl rfl rfl (by decide +kernel) ⟨Nat.le_of_ble_eq_true rfl, Nat.le_of_ble_eq_true rfl⟩) (z_preR (fun k q h => by simp at h) hG) rfl rfl hl.1 rfl (lv_room (Nat.le_of_ble_eq_true rfl)) dX7_isPlace_8 ⟨Nat.zero_le _, Nat.zero_le _⟩) (fun r3 hr3 => ?_)
    rcases hr3 with ⟨rfl, c4⟩ | ⟨rfl, c4⟩
    · -- 8 t
      refine lv_if_eq (tgt := 29) hx hb dX7_isPlace_11 (by decide) (fun c => absurd c (by decide)) (fun _ => ?_)
      refine lv_iload_n hx hb dX7_isPlace_14 rfl (lv_at hl 2 rfl) ?_
      refine lv_iconst (v := nI 1) hx hb dX7_isPlace_15 (by decide) ?_
      refine lv_sipush (v := nI 2519) hx hb dX7_isPlace_16 (by decide) ?_
      refine z_rd (fun _ h => h) (va_runS (As := [.int v, .int (nI 1), .int (nI 2519)]) (rest := []) hF (c_X7_in l E v (nI 1) (nI 2519) ) (va_cwS 3 hts gX7_isPlace_X7_in rfl rfl rfl (by decide +kernel) ⟨Nat.le_of_ble_eq_true rfl, Nat.le_of_ble_eq_true rfl⟩) (z_preR (fun k q h => by simp at h) hG) rfl rfl hl.1 rfl (lv_room (Nat.le_of_ble_eq_true rfl)) dX7_isPlace_19 ⟨Nat.zero_le _, Nat.zero_le _⟩) (fun r5 hr5 => ?_)
      rcases hr5 with ⟨rfl, c6⟩ | ⟨rfl, c6⟩
      · -- 19 t
        refine lv_if_eq (tgt := 29) hx hb dX7_isPlace_22 (by decide) (fun c => absurd c (by decide)) (fun _ => ?_)
        refine lv_iconst (v := nI 1) hx hb dX7_isPlace_25 (by decide) ?_
        refine lv_goto (tgt := 30) hx hb dX7_isPlace_26 (by decide) ?_
        exact hret _ _ _ dX7_isPlace_30 (Or.inl ⟨rfl, by first | exact ⟨by assumption, by assumption, by assumption⟩ | exact fun q => absurd q.1 (by assumption) | exact fun q => absurd q.2.1 (by assumption) | exact fun q => absurd q.2.2 (by assumption)⟩)
      · -- 19 f
        refine lv_if_eq (tgt := 29) hx hb dX7_isPlace_22 (by decide) (fun _ => ?_) (fun c => absurd c (by decide))
        refine lv_iconst (v := nI 0) hx hb dX7_isPlace_29 (by decide) ?_
        exact hret _ _ _ dX7_isPlace_30 (Or.inr ⟨rfl, by first | exact ⟨by assumption, by assumption, by assumption⟩ | exact fun q => absurd q.1 (by assumption) | exact fun q => absurd q.2.1 (by assumption) | exact fun q => absurd q.2.2 (by assumption)⟩)
    · -- 8 f
      refine lv_if_eq (tgt := 29) hx hb dX7_isPlace_11 (by decide) (fun _ => ?_) (fun c => absurd c (by decide))
      refine lv_iconst (v := nI 0) hx hb dX7_isPlace_29 (by decide) ?_
      exact hret _ _ _ dX7_isPlace_30 (Or.inr ⟨rfl, by first | exact ⟨by assumption, by assumption, by assumption⟩ | exact fun q => absurd q.1 (by assumption) | exact fun q => absurd q.2.1 (by assumption) | exact fun q => absurd q.2.2 (by assumption)⟩)
  · -- 1 f
    refine lv_if_eq (tgt := 29) hx hb dX7_isPlace_4 (by decide) (fun _ => ?_) (fun c => absurd c (by decide))
    refine lv_iconst (v := nI 0) hx hb dX7_isPlace_29 (by decide) ?_
    exact hret _ _ _ dX7_isPlace_30 (Or.inr ⟨rfl, by first | exact ⟨by assumption, by assumption, by assumption⟩ | exact fun q => absurd q.1 (by assumption) | exact fun q => absurd q.2.1 (by assumption) | exact fun q => absurd q.2.2 (by assumption)⟩)
set_option maxHeartbeats 1000000 in
set_option maxRecDepth 100000 in
theorem c_X7_areTwo (l : Launch) (E : zE) (a b : Int32)  : zR l yX7_areTwo wsX7_areTwo ({ frames := 2, cells := 0, slots := 0, locals := 42 }) E [.int a, .int b] [] (fun r => (r = nI 1 ∧ ((nI 0 ≤ a ∧ a ≤ nI 3) ∧ (nI 0 ≤ b ∧ b ≤ nI 3) ∧ a ≠ b)) ∨ (r = nI 0 ∧ ¬ ((nI 0 ≤ a ∧ a ≤ nI 3) ∧ (nI 0 ≤ b ∧ b ≤ nI 3) ∧ a ≠ b))) := by
  refine zR.start (own := RX7) rfl (by decide +kernel) rfl (Nat.le_of_ble_eq_true rfl) (z_nar) ?_
  intro pZ eZ sZ mZ argsZ belowZ methZ cZ QZ hF hret hP hG ls hl
  obtain ⟨hx, hb, hml, hown, hts⟩ := id hF
  have hl : lv_has ls 2 [(0, .int a), (1, .int b)] := hl
  refine lv_iload_n hx hb dX7_areTwo_0 rfl (lv_at hl 0 rfl) ?_
  refine z_rd (fun _ h => h) (va_runS (As := [.int a]) (rest := []) hF (c_X7_isString l E a ) (va_cwS 1 hts gX7_areTwo_X7_isString rfl rfl rfl (by decide +kernel) ⟨Nat.le_of_ble_eq_true rfl, Nat.le_of_ble_eq_true rfl⟩) (z_preR (fun k q h => by simp at h) hG) rfl rfl hl.1 rfl (lv_room (Nat.le_of_ble_eq_true rfl)) dX7_areTwo_1 ⟨Nat.zero_le _, Nat.zero_le _⟩) (fun r1 hr1 => ?_)
  rcases hr1 with ⟨rfl, c2⟩ | ⟨rfl, c2⟩
  · -- 1 t
    refine lv_if_eq (tgt := 23) hx hb dX7_areTwo_4 (by decide) (fun c => absurd c (by decide)) (fun _ => ?_)
    refine lv_iload_n hx hb dX7_areTwo_7 rfl (lv_at hl 1 rfl) ?_
    refine z_rd (fun _ h => h) (va_runS (As := [.int b]) (rest := []) hF (c_X7_isString l E b ) (va_cwS 1 hts gX7_areTwo_X7_isString rfl rfl rfl (by decide +kernel) ⟨Nat.le_of_ble_eq_true rfl, Nat.le_of_ble_eq_true rfl⟩) (z_preR (fun k q h => by simp at h) hG) rfl rfl hl.1 rfl (lv_room (Nat.le_of_ble_eq_true rfl)) dX7_areTwo_8 ⟨Nat.zero_le _, Nat.zero_le _⟩) (fun r3 hr3 => ?_)
    rcases hr3 with ⟨rfl, c4⟩ | ⟨rfl, c4⟩
    · -- 8 t
      refine lv_if_eq (tgt := 23) hx hb dX7_areTwo_11 (by decide) (fun c => absurd c (by decide)) (fun _ => ?_)
      refine lv_iload_n hx hb dX7_areTwo_14 rfl (lv_at hl 0 rfl) ?_
      refine lv_iload_n hx hb dX7_areTwo_15 rfl (lv_at hl 1 rfl) ?_
      refine lv_icmp_eq (tgt := 23) hx hb dX7_areTwo_16 (by decide) (fun c5 => ?_) (fun c5 => ?_)
      · -- 16 t
        refine lv_iconst (v := nI 0) hx hb dX7_areTwo_23 (by decide) ?_
        exact hret _ _ _ dX7_areTwo_24 (Or.inr ⟨rfl, by first | exact ⟨by assumption, by assumption, by assumption⟩ | exact fun q => absurd q.1 (by assumption) | exact fun q => absurd q.2.1 (by assumption) | exact fun q => absurd (by assumption) q.2.2⟩)
      · -- 16 f
        refine lv_iconst (v := nI 1) hx hb dX7_areTwo_19 (by decide) ?_
        refine lv_goto (tgt := 24) hx hb dX7_areTwo_20 (by decide) ?_
        exact hret _ _ _ dX7_areTwo_24 (Or.inl ⟨rfl, by first | exact ⟨by assumption, by assumption, by assumption⟩ | exact fun q => absurd q.1 (by assumption) | exact fun q => absurd q.2.1 (by assumption) | exact fun q => absurd (by assumption) q.2.2⟩)
    · -- 8 f
      refine lv_if_eq (tgt := 23) hx hb dX7_areTwo_11 (by decide) (fun _ => ?_) (fun c => absurd c (by decide))
      refine lv_iconst (v := nI 0) hx hb dX7_areTwo_23 (by decide) ?_
      exact hret _ _ _ dX7_areTwo_24 (Or.inr ⟨rfl, by first | exact ⟨by assumption, by assumption, by assumption⟩ | exact fun q => absurd q.1 (by assumption) | exact fun q => absurd q.2.1 (by assumption) | exact fun q => absurd (by assumption) q.2.2⟩)
  · -- 1 f
    refine lv_if_eq (tgt := 23) hx hb dX7_areTwo_4 (by decide) (fun _ => ?_) (fun c => absurd c (by decide))
    refine lv_iconst (v := nI 0) hx hb dX7_areTwo_23 (by decide) ?_
    exact hret _ _ _ dX7_areTwo_24 (Or.inr ⟨rfl, by first | exact ⟨by assumption, by assumption, by assumption⟩ | exact fun q => absurd q.1 (by assumption) | exact fun q => absurd q.2.1 (by assumption) | exact fun q => absurd (by assumption) q.2.2⟩)
set_option maxHeartbeats 1000000 in
set_option maxRecDepth 100000 in
theorem c_X7_isDamped (l : Launch) (E : zE) (x ms mp mt md pz len sp fm s n : Nat) (q1 q2 q3 q4 q5 : Int32) (M : Nat → Nat) (hn : M 0 ≤ 12) (hPb : ∀ i, i < 12 → mP M i ≤ 2400) (hHb : ∀ i, i < 12 → mH M i ≤ 2000) (hprn : ∀ i, i < 4 → mPr M i ≤ M 0) (hs : s < 4) (hm1 : 1 ≤ n) (hm2 : n ≤ 12) (hfi : ∀ i, i < 4 → mFi M i ≤ 2519) : zR l yX7_isDamped wsX7_isDamped ({ frames := 7, cells := 0, slots := 0, locals := 158 }) E [.ref x, .int (nI s), .int (nI n)] [(x, .inr (7, [.ref ms, .ref mp, .int (nI pz), .ref mt, .int (nI len), .ref md, .int (nI sp), .int q1, .int q2, .int q3, .int q4, .int q5, .int (nI fm)])), (ms, .inl (E.2.1, 265, .inl (fun zz => nI (M zz))))] (fun r => (r = nI 1 ∧ (mSt M s < mFi M s ∧ ¬ n * (mFi M s - mSt M s) % (2520 - mSt M s) = 0)) ∨ (r = nI 0 ∧ ¬ (mSt M s < mFi M s ∧ ¬ n * (mFi M s - mSt M s) % (2520 - mSt M s) = 0))) := by
  refine zR.start (own := RX7) rfl (by decide +kernel) rfl (Nat.le_of_ble_eq_true rfl) (z_nar) ?_
  intro pZ eZ sZ mZ argsZ belowZ methZ cZ QZ hF hret hP hG ls hl
  obtain ⟨hx, hb, hml, hown, hts⟩ := id hF
  have hl : lv_has ls 3 [(0, .ref x), (1, .int (nI s)), (2, .int (nI n))] := hl
  have hsb : mSt M s ≤ 2400 := mSt_le hn hPb hprn hs
  have hfb : mFi M s ≤ 2519 := hfi s hs
  have hfe : M (45 + 4 * s + 2) = mFi M s := rfl
  refine lv_aload_n hx hb dX7_isDamped_0 rfl (lv_at hl 0 rfl) ?_
  refine lv_iload_n hx hb dX7_isDamped_1 rfl (lv_at hl 1 rfl) ?_
  refine lv_iconst (v := nI 2) hx hb dX7_isDamped_2 (by decide) ?_
  have hPc := zP_sub (w := [(x, .inr (7, [.ref ms, .ref mp, .int (nI pz), .ref mt, .int (nI len), .ref md, .int (nI sp), .int q1, .int q2, .int q3, .int q4, .int q5, .int (nI fm)])), (ms, .inl (E.2.1, 265, .inl (fun zz => nI (M zz))))]) hP [0, 1] rfl
  refine z_rd (fun _ h => h) (va_runV (As := [.int (nI s), .int (nI 2)]) (rest := []) hF (c_X7_of l E x ms mp mt md pz len sp fm s 2 q1 q2 q3 q4 q5 M (by first | assumption | omega) (by first | assumption | omega)) (cwV 2 hts gX7_isDamped_X7_of rfl rfl rfl (by decide +kernel) ⟨Nat.le_of_ble_eq_true rfl, Nat.le_of_ble_eq_true rfl⟩) (z_preRV (va_recv hG.1 hP (ci := 7) (q0 := 0) rfl rfl) hPc hG) rfl rfl hl.1 rfl (lv_room (Nat.le_of_ble_eq_true rfl)) dX7_isDamped_3 ⟨Nat.zero_le _, Nat.zero_le _⟩) (fun r1 hr1 => ?_)
  subst hr1
  refine lv_aload_n hx hb dX7_isDamped_6 rfl (lv_at hl 0 rfl) ?_
  refine lv_iload_n hx hb dX7_isDamped_7 rfl (lv_at hl 1 rfl) ?_
  have hPc := zP_sub (w := [(x, .inr (7, [.ref ms, .ref mp, .int (nI pz), .ref mt, .int (nI len), .ref md, .int (nI sp), .int q1, .int q2, .int q3, .int q4, .int q5, .int (nI fm)])), (ms, .inl (E.2.1, 265, .inl (fun zz => nI (M zz))))]) hP [0, 1] rfl
  refine z_rd (fun _ h => h) (va_runV (As := [.int (nI s)]) (rest := [.int (nI (M (45 + 4 * s + 2)))]) hF (c_X7_positionOf l E x ms mp mt md pz len sp fm s q1 q2 q3 q4 q5 M (by first | assumption | omega) (by first | assumption | omega) (by first | assumption | omega) (by first | assumption | omega) (by first | assumption | omega)) (cwV 1 hts gX7_isDamped_X7_positionOf rfl rfl rfl (by decide +kernel) ⟨Nat.le_of_ble_eq_true rfl, Nat.le_of_ble_eq_true rfl⟩) (z_preRV (va_recv hG.1 hP (ci := 7) (q0 := 0) rfl rfl) hPc hG) rfl rfl hl.1 rfl (lv_room (Nat.le_of_ble_eq_true rfl)) dX7_isDamped_8 ⟨Nat.zero_le _, Nat.zero_le _⟩) (fun r2 hr2 => ?_)
  subst hr2
  refine z_icmp_le (a := M (45 + 4 * s + 2)) (b := mSt M s) (tgt := 33) hx hb dX7_isDamped_11 (by decide) (by omega) (by omega) (fun c3 => ?_) (fun c3 => ?_)
  · -- 11 t
    refine lv_iconst (v := nI 0) hx hb dX7_isDamped_33 (by decide) ?_
    exact hret _ _ _ dX7_isDamped_34 (Or.inr ⟨rfl, by first | exact ⟨by omega, by assumption⟩ | (intro q; omega) | exact fun q => q.2 (by assumption)⟩)
  · -- 11 f
    refine lv_aload_n hx hb dX7_isDamped_14 rfl (lv_at hl 0 rfl) ?_
    refine lv_iload_n hx hb dX7_isDamped_15 rfl (lv_at hl 1 rfl) ?_
    refine lv_iload_n hx hb dX7_isDamped_16 rfl (lv_at hl 2 rfl) ?_
    refine lv_aload_n hx hb dX7_isDamped_17 rfl (lv_at hl 0 rfl) ?_
    refine lv_iload_n hx hb dX7_isDamped_18 rfl (lv_at hl 1 rfl) ?_
    refine lv_iconst (v := nI 2) hx hb dX7_isDamped_19 (by decide) ?_
    have hPc := zP_sub (w := [(x, .inr (7, [.ref ms, .ref mp, .int (nI pz), .ref mt, .int (nI len), .ref md, .int (nI sp), .int q1, .int q2, .int q3, .int q4, .int q5, .int (nI fm)])), (ms, .inl (E.2.1, 265, .inl (fun zz => nI (M zz))))]) hP [0, 1] rfl
    refine z_rd (fun _ h => h) (va_runV (As := [.int (nI s), .int (nI 2)]) (rest := [.int (nI n), .int (nI s), .ref x]) hF (c_X7_of l E x ms mp mt md pz len sp fm s 2 q1 q2 q3 q4 q5 M (by first | assumption | omega) (by first | assumption | omega)) (cwV 2 hts gX7_isDamped_X7_of rfl rfl rfl (by decide +kernel) ⟨Nat.le_of_ble_eq_true rfl, Nat.le_of_ble_eq_true rfl⟩) (z_preRV (va_recv hG.1 hP (ci := 7) (q0 := 0) rfl rfl) hPc hG) rfl rfl hl.1 rfl (lv_room (Nat.le_of_ble_eq_true rfl)) dX7_isDamped_20 ⟨Nat.zero_le _, Nat.zero_le _⟩) (fun r4 hr4 => ?_)
    subst hr4
    have hPc := zP_sub (w := [(x, .inr (7, [.ref ms, .ref mp, .int (nI pz), .ref mt, .int (nI len), .ref md, .int (nI sp), .int q1, .int q2, .int q3, .int q4, .int q5, .int (nI fm)])), (ms, .inl (E.2.1, 265, .inl (fun zz => nI (M zz))))]) hP [0, 1] rfl
    refine z_rd (fun _ h => h) (va_runV (As := [.int (nI s), .int (nI n), .int (nI (M (45 + 4 * s + 2)))]) (rest := []) hF (c_X7_hasNode l E x ms mp mt md pz len sp fm s n (M (45 + 4 * s + 2)) q1 q2 q3 q4 q5 M (by first | assumption | omega) (by first | assumption | omega) (by first | assumption | omega) (by first | assumption | omega) (by first | assumption | omega) (by first | assumption | omega) (by first | assumption | omega) (by first | assumption | omega) (by first | assumption | omega)) (cwV 3 hts gX7_isDamped_X7_hasNode rfl rfl rfl (by decide +kernel) ⟨Nat.le_of_ble_eq_true rfl, Nat.le_of_ble_eq_true rfl⟩) (z_preRV (va_recv hG.1 hP (ci := 7) (q0 := 0) rfl rfl) hPc hG) rfl rfl hl.1 rfl (lv_room (Nat.le_of_ble_eq_true rfl)) dX7_isDamped_23 ⟨Nat.zero_le _, Nat.zero_le _⟩) (fun r5 hr5 => ?_)
    rcases hr5 with ⟨rfl, c6⟩ | ⟨rfl, c6⟩
    · -- 23 t
      refine lv_if_ne (tgt := 33) hx hb dX7_isDamped_26 (by decide) (fun _ => ?_) (fun c => absurd c (by decide))
      refine lv_iconst (v := nI 0) hx hb dX7_isDamped_33 (by decide) ?_
      exact hret _ _ _ dX7_isDamped_34 (Or.inr ⟨rfl, by first | exact ⟨by omega, by assumption⟩ | (intro q; omega) | exact fun q => q.2 (by assumption)⟩)
    · -- 23 f
      refine lv_if_ne (tgt := 33) hx hb dX7_isDamped_26 (by decide) (fun c => absurd c (by decide)) (fun _ => ?_)
      refine lv_iconst (v := nI 1) hx hb dX7_isDamped_29 (by decide) ?_
      refine lv_goto (tgt := 34) hx hb dX7_isDamped_30 (by decide) ?_
      exact hret _ _ _ dX7_isDamped_34 (Or.inl ⟨rfl, by first | exact ⟨by omega, by assumption⟩ | (intro q; omega) | exact fun q => q.2 (by assumption)⟩)
set_option maxHeartbeats 1000000 in
set_option maxRecDepth 100000 in
theorem c_X7_heardOnes (l : Launch) (E : zE) (x ms mp mt md pz len sp fm : Nat) (q1 q2 q3 q4 q5 : Int32) (M : Nat → Nat) (ham : ∀ i, i < 48 → mAm M i ≤ 1000000) (hse4 : M 8 ≤ 100000) : zR l yX7_heardOnes wsX7_heardOnes ({ frames := 3, cells := 0, slots := 0, locals := 68 }) E [.ref x] [(x, .inr (7, [.ref ms, .ref mp, .int (nI pz), .ref mt, .int (nI len), .ref md, .int (nI sp), .int q1, .int q2, .int q3, .int q4, .int q5, .int (nI fm)])), (ms, .inl (E.2.1, 265, .inl (fun zz => nI (M zz))))] (fun r => r = nI (hrL (mAm M) (M 8) 4)) := by
  refine zR.start (own := RX7) rfl (by decide +kernel) rfl (Nat.le_of_ble_eq_true rfl) (fun _ _ => rfl) ?_
  intro pZ eZ sZ mZ argsZ belowZ methZ cZ QZ hF hret hP hG ls hl
  obtain ⟨hx, hb, hml, hown, hts⟩ := id hF
  have hl : lv_has ls 3 [(0, .ref x)] := hl
  refine lv_iconst (v := nI 0) hx hb dX7_heardOnes_0 (by decide) ?_
  refine lv_istore_n (lv' := [(1, .int (nI 0)), (0, .ref x)]) hx hb dX7_heardOnes_1 rfl hl (by decide) rfl (fun ls hl => ?_)
  refine lv_iconst (v := nI 0) hx hb dX7_heardOnes_2 (by decide) ?_
  refine lv_istore_n (lv' := [(2, .int (nI 0)), (1, .int (nI 0)), (0, .ref x)]) hx hb dX7_heardOnes_3 rfl hl (by decide) rfl (fun ls hl => ?_)
  have L4_1 : ∀ (fuelZ : Nat) (g : Nat), 4 - g < fuelZ → (g ≤ 4) → ∀ ls : Array Slot, lv_has ls 3 [(2, .int (nI g)), (1, .int (nI (hrL (mAm M) (M 8) g))), (0, .ref x)] → W pZ l eZ ({ frames := 3, cells := 0, slots := 0, locals := 68 }) sZ mZ argsZ belowZ methZ cZ sZ.heap [] 0 0 QZ (F0 mZ 4 ls []) := by
    intro fuelZ
    induction fuelZ with
    | zero => intro g hm; exact absurd hm (Nat.not_lt_zero _)
    | succ fuelZ ih4 =>
      intro g hm i1 ls hl
      refine lv_iload_n hx hb dX7_heardOnes_4 rfl (lv_at hl 0 rfl) ?_
      refine lv_iconst (v := nI 4) hx hb dX7_heardOnes_5 (by decide) ?_
      refine z_icmp_ge (a := g) (b := 4) (tgt := 26) hx hb dX7_heardOnes_6 (by decide) (by omega) (by omega) (fun c2 => ?_) (fun c2 => ?_)
      · -- 6 t
        refine lv_iload_n hx hb dX7_heardOnes_26 rfl (lv_at hl 1 rfl) ?_
        exact hret _ _ _ dX7_heardOnes_27 (by rw [show g = 4 by omega])
      · -- 6 f
        refine lv_iload_n hx hb dX7_heardOnes_9 rfl (lv_at hl 1 rfl) ?_
        refine lv_aload_n hx hb dX7_heardOnes_10 rfl (lv_at hl 2 rfl) ?_
        refine lv_iload_n hx hb dX7_heardOnes_11 rfl (lv_at hl 0 rfl) ?_
        have hPc := zP_sub (w := [(x, .inr (7, [.ref ms, .ref mp, .int (nI pz), .ref mt, .int (nI len), .ref md, .int (nI sp), .int q1, .int q2, .int q3, .int q4, .int q5, .int (nI fm)])), (ms, .inl (E.2.1, 265, .inl (fun zz => nI (M zz))))]) hP [0, 1] rfl
        refine z_rd (fun _ h => h) (va_runV (As := [.int (nI g)]) (rest := [.int (nI (hrL (mAm M) (M 8) g))]) hF (c_X7_heardOf l E x ms mp mt md pz len sp fm g q1 q2 q3 q4 q5 M (by first | assumption | omega | exact mhL_lt _ _ _ 12) (by first | assumption | omega | exact mhL_lt _ _ _ 12) (by first | assumption | omega | exact mhL_lt _ _ _ 12)) (cwV 1 hts gX7_heardOnes_X7_heardOf rfl rfl rfl (by decide +kernel) ⟨Nat.le_of_ble_eq_true rfl, Nat.le_of_ble_eq_true rfl⟩) (z_preRV (va_recv hG.1 hP (ci := 7) (q0 := 0) rfl rfl) hPc hG) rfl rfl hl.1 rfl (lv_room (Nat.le_of_ble_eq_true rfl)) dX7_heardOnes_12 ⟨Nat.zero_le _, Nat.zero_le _⟩) (fun r3 hr3 => ?_)
        subst hr3
        refine z_rd (fun _ h => h) (va_runS (As := [.int (nI (mhL (mAm M) (M 8) g 12))]) (rest := [.int (nI (hrL (mAm M) (M 8) g))]) hF (c_X7_bits l E (mhL (mAm M) (M 8) g 12) (by first | assumption | omega | exact mhL_lt _ _ _ 12)) (va_cwS 1 hts gX7_heardOnes_X7_bits rfl rfl rfl (by decide +kernel) ⟨Nat.le_of_ble_eq_true rfl, Nat.le_of_ble_eq_true rfl⟩) (z_preR (fun k q h => by simp at h) hG) rfl rfl hl.1 rfl (lv_room (Nat.le_of_ble_eq_true rfl)) dX7_heardOnes_15 ⟨Nat.zero_le _, Nat.zero_le _⟩) (fun r4 hr4 => ?_)
        subst hr4
        refine z_iadd (a := hrL (mAm M) (M 8) g) (b := popc (mhL (mAm M) (M 8) g 12)) hx hb dX7_heardOnes_18 ?_
        refine lv_istore_n (lv' := [(1, .int (nI ((hrL (mAm M) (M 8) g) + (popc (mhL (mAm M) (M 8) g 12))))), (2, .int (nI g)), (0, .ref x)]) hx hb dX7_heardOnes_19 rfl hl (by decide) rfl (fun ls hl => ?_)
        refine z_iinc (k := 1) (d := 1) (lv' := [(2, .int (nI (g + 1))), (1, .int (nI ((hrL (mAm M) (M 8) g) + (popc (mhL (mAm M) (M 8) g 12))))), (0, .ref x)]) hx hb dX7_heardOnes_20 (by decide) hl rfl (by decide) rfl (fun ls hl => ?_)
        refine lv_goto (tgt := 4) hx hb dX7_heardOnes_23 (by decide) ?_
        have e5 : nI ((hrL (mAm M) (M 8) g) + (popc (mhL (mAm M) (M 8) g 12))) = nI (hrL (mAm M) (M 8) (g + 1)) := by rfl
        have hl : lv_has ls 3 [(2, .int (nI (g + 1))), (1, .int (nI (hrL (mAm M) (M 8) (g + 1)))), (0, .ref x)] := Eq.subst (motive := fun XX : Int32 => lv_has ls 3 [(2, .int (nI (g + 1))), (1, .int XX), (0, .ref x)]) e5 hl
        exact ih4 (g + 1) (by omega) (by omega) _ (lv_sub hl [0, 1, 2] rfl)
  have e6 : nI 0 = nI (hrL (mAm M) (M 8) 0) := by rfl
  have hl : lv_has ls 3 [(2, .int (nI 0)), (1, .int (nI (hrL (mAm M) (M 8) 0))), (0, .ref x)] := Eq.subst (motive := fun XX : Int32 => lv_has ls 3 [(2, .int (nI 0)), (1, .int XX), (0, .ref x)]) e6 hl
  exact L4_1 ((4 - 0) + 1) 0 (Nat.lt_succ_self _) (by omega) _ (lv_sub hl [0, 1, 2] rfl)
theorem iwX7_rests_X7_c_X7_rests : ∀ w ∈ wsX70, w ∈ wsX7_rests := by decide +kernel
set_option maxHeartbeats 1000000 in
set_option maxRecDepth 100000 in
theorem c_X7_rests (l : Launch) (E : zE) (x ms mp mt md pz len sp fm s : Nat) (q1 q2 q3 q4 q5 : Int32) (M : Nat → Nat) (hs : s < 4) : zV l yX7_rests wsX7_rests ({ frames := 0, cells := 0, slots := 0, locals := 0 }) E [.ref x, .int (nI s)] [(x, .inr (7, [.ref ms, .ref mp, .int (nI pz), .ref mt, .int (nI len), .ref md, .int (nI sp), .int q1, .int q2, .int q3, .int q4, .int q5, .int (nI fm)])), (ms, .inl (E.2.1, 265, .inl (fun zz => nI (M zz))))] (fun w' => w' = [(x, .inr (7, [.ref ms, .ref mp, .int (nI pz), .ref mt, .int (nI len), .ref md, .int (nI sp), .int q1, .int q2, .int q3, .int q4, .int q5, .int (nI fm)])), (ms, .inl (E.2.1, 265, .inl (fun zz => nI ((mq M s 12) zz))))]) := by
  refine zV.start (own := RX7) rfl (by decide +kernel) rfl (Nat.le_of_ble_eq_true rfl) ?_
  intro pZ eZ sZ mZ argsZ belowZ methZ cZ QZ AZ hF hret HZ locsZ hP hD hS hG ls hl
  obtain ⟨hx, hb, hml, hown, hts⟩ := id hF
  have hl : lv_has ls 3 [(0, .ref x), (1, .int (nI s))] := hl
  refine lv_iconst (v := nI 1) hx hb dX7_rests_0 (by decide) ?_
  refine lv_istore_n (lv' := [(2, .int (nI 1)), (0, .ref x), (1, .int (nI s))]) hx hb dX7_rests_1 rfl hl (by decide) rfl (fun ls hl => ?_)
  have L2_1 : ∀ (fuelZ : Nat) (g : Nat), 13 - g < fuelZ → (1 ≤ g) → (g ≤ 13) → ∀ (HZ : Heap) (locsZ : List Loc), va_P E.1 vwCl [(x, .inr (7, [.ref ms, .ref mp, .int (nI pz), .ref mt, .int (nI len), .ref md, .int (nI sp), .int q1, .int q2, .int q3, .int q4, .int q5, .int (nI fm)])), (ms, .inl (E.2.1, 265, .inl (fun zz => nI ((mq M s (g - 1)) zz))))] HZ → va_D AZ [(x, .inr (7, [.ref ms, .ref mp, .int (nI pz), .ref mt, .int (nI len), .ref md, .int (nI sp), .int q1, .int q2, .int q3, .int q4, .int q5, .int (nI fm)])), (ms, .inl (E.2.1, 265, .inl (fun zz => nI ((mq M s (g - 1)) zz))))] → va_S AZ sZ.heap HZ locsZ → ∀ ls : Array Slot, lv_has ls 3 [(2, .int (nI g)), (0, .ref x), (1, .int (nI s))] → W pZ l eZ ({ frames := 0, cells := 0, slots := 0, locals := 0 }) sZ mZ argsZ belowZ methZ cZ HZ locsZ 0 0 QZ (F0 mZ 2 ls []) := by
    intro fuelZ
    induction fuelZ with
    | zero => intro g hm; exact absurd hm (Nat.not_lt_zero _)
    | succ fuelZ ih2 =>
      intro g hm i0 i1 HZ locsZ hP hD hS ls hl
      refine lv_iload_n hx hb dX7_rests_2 rfl (lv_at hl 0 rfl) ?_
      refine lv_bipush (v := nI 12) hx hb dX7_rests_3 (by decide) ?_
      refine z_icmp_gt (a := g) (b := 12) (tgt := 31) hx hb dX7_rests_5 (by decide) (by omega) (by omega) (fun c2 => ?_) (fun c2 => ?_)
      · -- 5 t
        have e3 : (mq M s (g - 1) : Nat → Nat) = mq M s 12 := by first | rfl | (rw [show g = 13 by omega])
        have hP : va_P E.1 vwCl [(x, .inr (7, [.ref ms, .ref mp, .int (nI pz), .ref mt, .int (nI len), .ref md, .int (nI sp), .int q1, .int q2, .int q3, .int q4, .int q5, .int (nI fm)])), (ms, .inl (E.2.1, 265, .inl (fun zz => nI ((mq M s 12) zz))))] HZ := Eq.subst (motive := fun XX : Nat → Nat => va_P E.1 vwCl [(x, .inr (7, [.ref ms, .ref mp, .int (nI pz), .ref mt, .int (nI len), .ref md, .int (nI sp), .int q1, .int q2, .int q3, .int q4, .int q5, .int (nI fm)])), (ms, .inl (E.2.1, 265, .inl (fun zz => nI (XX zz))))] HZ) e3 hP
        have hD : va_D AZ [(x, .inr (7, [.ref ms, .ref mp, .int (nI pz), .ref mt, .int (nI len), .ref md, .int (nI sp), .int q1, .int q2, .int q3, .int q4, .int q5, .int (nI fm)])), (ms, .inl (E.2.1, 265, .inl (fun zz => nI ((mq M s 12) zz))))] := Eq.subst (motive := fun XX : Nat → Nat => va_D AZ [(x, .inr (7, [.ref ms, .ref mp, .int (nI pz), .ref mt, .int (nI len), .ref md, .int (nI sp), .int q1, .int q2, .int q3, .int q4, .int q5, .int (nI fm)])), (ms, .inl (E.2.1, 265, .inl (fun zz => nI (XX zz))))]) e3 hD
        exact hret _ _ _ _ _ hP hS dX7_rests_31 rfl rfl
      · -- 5 f
        refine lv_aload_n hx hb dX7_rests_8 rfl (lv_at hl 1 rfl) ?_
        refine va_get (D := E.1) (ci := 7) (v := .ref ms) (C := RX7) (T := TX7) (N := 13) hx hb hts iwX7_rests_X7_c_X7_rests hown hG.1 hP 0 rfl rfl 0 (by decide) (hts (.fieldLink RX7 7 "FrettedStringsModel" "st" "[I") (by decide +kernel)) (fun _ h9 => h9) rfl dX7_rests_9 ?_
        refine lv_bipush (v := nI 61) hx hb dX7_rests_12 (by decide) ?_
        refine lv_bipush (v := nI 12) hx hb dX7_rests_14 (by decide) ?_
        refine lv_iload_n hx hb dX7_rests_16 rfl (lv_at hl 2 rfl) ?_
        refine z_imul (a := 12) (b := s) hx hb dX7_rests_17 ?_
        refine z_iadd (a := 61) (b := 12 * s) hx hb dX7_rests_18 ?_
        refine lv_iload_n hx hb dX7_rests_19 rfl (lv_at hl 0 rfl) ?_
        refine z_iadd (a := 61 + (12 * s)) (b := g) hx hb dX7_rests_20 ?_
        refine lv_iconst (v := nI 1) hx hb dX7_rests_21 (by decide) ?_
        refine z_isub (a := (61 + (12 * s)) + g) (b := 1) hx hb dX7_rests_22 (by omega) ?_
        refine lv_iconst (v := nI 0) hx hb dX7_rests_23 (by decide) ?_
        refine z_iast (j := ((61 + (12 * s)) + g) - 1) (v := 0) (g := va_up (mq M s (g - 1)) (((61 + (12 * s)) + g) - 1) 0) hx hb hG hP hD hS 1 rfl (by omega) (by decide) (rfl) dX7_rests_24 (fun HZ locsZ hP hD hS => ?_)
        have hP : va_P E.1 vwCl [(x, .inr (7, [.ref ms, .ref mp, .int (nI pz), .ref mt, .int (nI len), .ref md, .int (nI sp), .int q1, .int q2, .int q3, .int q4, .int q5, .int (nI fm)])), (ms, .inl (E.2.1, 265, .inl (fun zz => nI ((va_up (mq M s (g - 1)) (((61 + (12 * s)) + g) - 1) 0) zz))))] _ := hP
        have hD : va_D AZ [(x, .inr (7, [.ref ms, .ref mp, .int (nI pz), .ref mt, .int (nI len), .ref md, .int (nI sp), .int q1, .int q2, .int q3, .int q4, .int q5, .int (nI fm)])), (ms, .inl (E.2.1, 265, .inl (fun zz => nI ((va_up (mq M s (g - 1)) (((61 + (12 * s)) + g) - 1) 0) zz))))] := hD
        refine z_iinc (k := 0) (d := 1) (lv' := [(2, .int (nI (g + 1))), (0, .ref x), (1, .int (nI s))]) hx hb dX7_rests_25 (by decide) hl rfl (by decide) rfl (fun ls hl => ?_)
        refine lv_goto (tgt := 2) hx hb dX7_rests_28 (by decide) ?_
        have e4 : (va_up (mq M s (g - 1)) (((61 + (12 * s)) + g) - 1) 0 : Nat → Nat) = mq M s ((g + 1) - 1) := by first | rfl | (exact mq_s M i0)
        have hP : va_P E.1 vwCl [(x, .inr (7, [.ref ms, .ref mp, .int (nI pz), .ref mt, .int (nI len), .ref md, .int (nI sp), .int q1, .int q2, .int q3, .int q4, .int q5, .int (nI fm)])), (ms, .inl (E.2.1, 265, .inl (fun zz => nI ((mq M s ((g + 1) - 1)) zz))))] HZ := Eq.subst (motive := fun XX : Nat → Nat => va_P E.1 vwCl [(x, .inr (7, [.ref ms, .ref mp, .int (nI pz), .ref mt, .int (nI len), .ref md, .int (nI sp), .int q1, .int q2, .int q3, .int q4, .int q5, .int (nI fm)])), (ms, .inl (E.2.1, 265, .inl (fun zz => nI (XX zz))))] HZ) e4 hP
        have hD : va_D AZ [(x, .inr (7, [.ref ms, .ref mp, .int (nI pz), .ref mt, .int (nI len), .ref md, .int (nI sp), .int q1, .int q2, .int q3, .int q4, .int q5, .int (nI fm)])), (ms, .inl (E.2.1, 265, .inl (fun zz => nI ((mq M s ((g + 1) - 1)) zz))))] := Eq.subst (motive := fun XX : Nat → Nat => va_D AZ [(x, .inr (7, [.ref ms, .ref mp, .int (nI pz), .ref mt, .int (nI len), .ref md, .int (nI sp), .int q1, .int q2, .int q3, .int q4, .int q5, .int (nI fm)])), (ms, .inl (E.2.1, 265, .inl (fun zz => nI (XX zz))))]) e4 hD
        exact ih2 (g + 1) (by omega) (by omega) (by omega) _ _ hP hD hS _ (lv_sub hl [0, 1, 2] rfl)
  have e5 : (M : Nat → Nat) = mq M s (1 - 1) := by first | rfl | (exact mq_0 M s)
  have hP : va_P E.1 vwCl [(x, .inr (7, [.ref ms, .ref mp, .int (nI pz), .ref mt, .int (nI len), .ref md, .int (nI sp), .int q1, .int q2, .int q3, .int q4, .int q5, .int (nI fm)])), (ms, .inl (E.2.1, 265, .inl (fun zz => nI ((mq M s (1 - 1)) zz))))] HZ := Eq.subst (motive := fun XX : Nat → Nat => va_P E.1 vwCl [(x, .inr (7, [.ref ms, .ref mp, .int (nI pz), .ref mt, .int (nI len), .ref md, .int (nI sp), .int q1, .int q2, .int q3, .int q4, .int q5, .int (nI fm)])), (ms, .inl (E.2.1, 265, .inl (fun zz => nI (XX zz))))] HZ) e5 hP
  have hD : va_D AZ [(x, .inr (7, [.ref ms, .ref mp, .int (nI pz), .ref mt, .int (nI len), .ref md, .int (nI sp), .int q1, .int q2, .int q3, .int q4, .int q5, .int (nI fm)])), (ms, .inl (E.2.1, 265, .inl (fun zz => nI ((mq M s (1 - 1)) zz))))] := Eq.subst (motive := fun XX : Nat → Nat => va_D AZ [(x, .inr (7, [.ref ms, .ref mp, .int (nI pz), .ref mt, .int (nI len), .ref md, .int (nI sp), .int q1, .int q2, .int q3, .int q4, .int q5, .int (nI fm)])), (ms, .inl (E.2.1, 265, .inl (fun zz => nI (XX zz))))]) e5 hD
  exact L2_1 ((13 - 1) + 1) 1 (Nat.lt_succ_self _) (by omega) (by omega) _ _ hP hD hS _ (lv_sub hl [0, 1, 2] rfl)
theorem iwX7_stands_X7_c_X7_stands : ∀ w ∈ wsX70, w ∈ wsX7_stands := by decide +kernel
set_option maxHeartbeats 1000000 in
set_option maxRecDepth 100000 in
theorem c_X7_stands (l : Launch) (E : zE) (x ms mp mt md pz len sp fm : Nat) (q1 q2 q3 q4 q5 : Int32) (M Sd : Nat → Nat) (hn : M 0 ≤ 12) (hPb : ∀ i, i < 12 → mP M i ≤ 2400) (hHb : ∀ i, i < 12 → mH M i ≤ 2000) (hprn : ∀ i, i < 4 → mPr M i ≤ M 0) : zV l yX7_stands wsX7_stands ({ frames := 5, cells := 0, slots := 0, locals := 114 }) E [.ref x] [(x, .inr (7, [.ref ms, .ref mp, .int (nI pz), .ref mt, .int (nI len), .ref md, .int (nI sp), .int q1, .int q2, .int q3, .int q4, .int q5, .int (nI fm)])), (ms, .inl (E.2.1, 265, .inl (fun zz => nI (M zz)))), (md, .inl (E.2.1, 4, .inl (fun zz => nI (Sd zz))))] (fun w' => w' = [(x, .inr (7, [.ref ms, .ref mp, .int (nI pz), .ref mt, .int (nI len), .ref md, .int (nI sp), .int q1, .int q2, .int q3, .int q4, .int q5, .int (nI fm)])), (ms, .inl (E.2.1, 265, .inl (fun zz => nI (M zz)))), (md, .inl (E.2.1, 4, .inl (fun zz => nI ((sdL M Sd 4) zz))))]) := by
  refine zV.start (own := RX7) rfl (by decide +kernel) rfl (Nat.le_of_ble_eq_true rfl) ?_
  intro pZ eZ sZ mZ argsZ belowZ methZ cZ QZ AZ hF hret HZ locsZ hP hD hS hG ls hl
  obtain ⟨hx, hb, hml, hown, hts⟩ := id hF
  have hl : lv_has ls 2 [(0, .ref x)] := hl
  refine lv_iconst (v := nI 0) hx hb dX7_stands_0 (by decide) ?_
  refine lv_istore_n (lv' := [(1, .int (nI 0)), (0, .ref x)]) hx hb dX7_stands_1 rfl hl (by decide) rfl (fun ls hl => ?_)
  have L2_1 : ∀ (fuelZ : Nat) (g : Nat), 4 - g < fuelZ → (g ≤ 4) → ∀ (HZ : Heap) (locsZ : List Loc), va_P E.1 vwCl [(x, .inr (7, [.ref ms, .ref mp, .int (nI pz), .ref mt, .int (nI len), .ref md, .int (nI sp), .int q1, .int q2, .int q3, .int q4, .int q5, .int (nI fm)])), (ms, .inl (E.2.1, 265, .inl (fun zz => nI (M zz)))), (md, .inl (E.2.1, 4, .inl (fun zz => nI ((sdL M Sd g) zz))))] HZ → va_D AZ [(x, .inr (7, [.ref ms, .ref mp, .int (nI pz), .ref mt, .int (nI len), .ref md, .int (nI sp), .int q1, .int q2, .int q3, .int q4, .int q5, .int (nI fm)])), (ms, .inl (E.2.1, 265, .inl (fun zz => nI (M zz)))), (md, .inl (E.2.1, 4, .inl (fun zz => nI ((sdL M Sd g) zz))))] → va_S AZ sZ.heap HZ locsZ → ∀ ls : Array Slot, lv_has ls 2 [(1, .int (nI g)), (0, .ref x)] → W pZ l eZ ({ frames := 5, cells := 0, slots := 0, locals := 114 }) sZ mZ argsZ belowZ methZ cZ HZ locsZ 0 0 QZ (F0 mZ 2 ls []) := by
    intro fuelZ
    induction fuelZ with
    | zero => intro g hm; exact absurd hm (Nat.not_lt_zero _)
    | succ fuelZ ih2 =>
      intro g hm i1 HZ locsZ hP hD hS ls hl
      refine lv_iload_n hx hb dX7_stands_2 rfl (lv_at hl 0 rfl) ?_
      refine lv_iconst (v := nI 4) hx hb dX7_stands_3 (by decide) ?_
      refine z_icmp_ge (a := g) (b := 4) (tgt := 24) hx hb dX7_stands_4 (by decide) (by omega) (by omega) (fun c2 => ?_) (fun c2 => ?_)
      · -- 4 t
        have e3 : (sdL M Sd g : Nat → Nat) = sdL M Sd 4 := by first | rfl | (rw [show g = 4 by omega])
        have hP : va_P E.1 vwCl [(x, .inr (7, [.ref ms, .ref mp, .int (nI pz), .ref mt, .int (nI len), .ref md, .int (nI sp), .int q1, .int q2, .int q3, .int q4, .int q5, .int (nI fm)])), (ms, .inl (E.2.1, 265, .inl (fun zz => nI (M zz)))), (md, .inl (E.2.1, 4, .inl (fun zz => nI ((sdL M Sd 4) zz))))] HZ := Eq.subst (motive := fun XX : Nat → Nat => va_P E.1 vwCl [(x, .inr (7, [.ref ms, .ref mp, .int (nI pz), .ref mt, .int (nI len), .ref md, .int (nI sp), .int q1, .int q2, .int q3, .int q4, .int q5, .int (nI fm)])), (ms, .inl (E.2.1, 265, .inl (fun zz => nI (M zz)))), (md, .inl (E.2.1, 4, .inl (fun zz => nI (XX zz))))] HZ) e3 hP
        have hD : va_D AZ [(x, .inr (7, [.ref ms, .ref mp, .int (nI pz), .ref mt, .int (nI len), .ref md, .int (nI sp), .int q1, .int q2, .int q3, .int q4, .int q5, .int (nI fm)])), (ms, .inl (E.2.1, 265, .inl (fun zz => nI (M zz)))), (md, .inl (E.2.1, 4, .inl (fun zz => nI ((sdL M Sd 4) zz))))] := Eq.subst (motive := fun XX : Nat → Nat => va_D AZ [(x, .inr (7, [.ref ms, .ref mp, .int (nI pz), .ref mt, .int (nI len), .ref md, .int (nI sp), .int q1, .int q2, .int q3, .int q4, .int q5, .int (nI fm)])), (ms, .inl (E.2.1, 265, .inl (fun zz => nI (M zz)))), (md, .inl (E.2.1, 4, .inl (fun zz => nI (XX zz))))]) e3 hD
        exact hret _ _ _ _ _ hP hS dX7_stands_24 rfl rfl
      · -- 4 f
        refine lv_aload_n hx hb dX7_stands_7 rfl (lv_at hl 1 rfl) ?_
        refine va_get (D := E.1) (ci := 7) (v := .ref md) (C := RX7) (T := TX7) (N := 13) hx hb hts iwX7_stands_X7_c_X7_stands hown hG.1 hP 0 rfl rfl 5 (by decide) (hts (.fieldLink RX7 19 "FrettedStringsModel" "stood" "[I") (by decide +kernel)) (fun _ h9 => h9) rfl dX7_stands_8 ?_
        refine lv_iload_n hx hb dX7_stands_11 rfl (lv_at hl 0 rfl) ?_
        refine lv_aload_n hx hb dX7_stands_12 rfl (lv_at hl 1 rfl) ?_
        refine lv_iload_n hx hb dX7_stands_13 rfl (lv_at hl 0 rfl) ?_
        have hPc := zP_sub (w := [(x, .inr (7, [.ref ms, .ref mp, .int (nI pz), .ref mt, .int (nI len), .ref md, .int (nI sp), .int q1, .int q2, .int q3, .int q4, .int q5, .int (nI fm)])), (ms, .inl (E.2.1, 265, .inl (fun zz => nI (M zz))))]) hP [0, 1] rfl
        refine z_rd (fun _ h => h) (va_runV (As := [.int (nI g)]) (rest := [.int (nI g), .ref md]) hF (c_X7_positionOf l E x ms mp mt md pz len sp fm g q1 q2 q3 q4 q5 M (by first | assumption | omega) (by first | assumption | omega) (by first | assumption | omega) (by first | assumption | omega) (by first | assumption | omega)) (cwV 1 hts gX7_stands_X7_positionOf rfl rfl rfl (by decide +kernel) ⟨Nat.le_of_ble_eq_true rfl, Nat.le_of_ble_eq_true rfl⟩) (z_preRV (va_recv hG.1 hP (ci := 7) (q0 := 0) rfl rfl) hPc hG) rfl rfl hl.1 rfl (lv_room (Nat.le_of_ble_eq_true rfl)) dX7_stands_14 ⟨Nat.zero_le _, Nat.zero_le _⟩) (fun r4 hr4 => ?_)
        subst hr4
        refine z_iast (j := g) (v := mSt M g) (g := va_up (sdL M Sd g) g (mSt M g)) hx hb hG hP hD hS 2 rfl (by omega) (by decide) (rfl) dX7_stands_17 (fun HZ locsZ hP hD hS => ?_)
        have hP : va_P E.1 vwCl [(x, .inr (7, [.ref ms, .ref mp, .int (nI pz), .ref mt, .int (nI len), .ref md, .int (nI sp), .int q1, .int q2, .int q3, .int q4, .int q5, .int (nI fm)])), (ms, .inl (E.2.1, 265, .inl (fun zz => nI (M zz)))), (md, .inl (E.2.1, 4, .inl (fun zz => nI ((va_up (sdL M Sd g) g (mSt M g)) zz))))] _ := hP
        have hD : va_D AZ [(x, .inr (7, [.ref ms, .ref mp, .int (nI pz), .ref mt, .int (nI len), .ref md, .int (nI sp), .int q1, .int q2, .int q3, .int q4, .int q5, .int (nI fm)])), (ms, .inl (E.2.1, 265, .inl (fun zz => nI (M zz)))), (md, .inl (E.2.1, 4, .inl (fun zz => nI ((va_up (sdL M Sd g) g (mSt M g)) zz))))] := hD
        refine z_iinc (k := 0) (d := 1) (lv' := [(1, .int (nI (g + 1))), (0, .ref x)]) hx hb dX7_stands_18 (by decide) hl rfl (by decide) rfl (fun ls hl => ?_)
        refine lv_goto (tgt := 2) hx hb dX7_stands_21 (by decide) ?_
        have e5 : (va_up (sdL M Sd g) g (mSt M g) : Nat → Nat) = sdL M Sd (g + 1) := by first | rfl | (exact sdL_s M Sd g)
        have hP : va_P E.1 vwCl [(x, .inr (7, [.ref ms, .ref mp, .int (nI pz), .ref mt, .int (nI len), .ref md, .int (nI sp), .int q1, .int q2, .int q3, .int q4, .int q5, .int (nI fm)])), (ms, .inl (E.2.1, 265, .inl (fun zz => nI (M zz)))), (md, .inl (E.2.1, 4, .inl (fun zz => nI ((sdL M Sd (g + 1)) zz))))] HZ := Eq.subst (motive := fun XX : Nat → Nat => va_P E.1 vwCl [(x, .inr (7, [.ref ms, .ref mp, .int (nI pz), .ref mt, .int (nI len), .ref md, .int (nI sp), .int q1, .int q2, .int q3, .int q4, .int q5, .int (nI fm)])), (ms, .inl (E.2.1, 265, .inl (fun zz => nI (M zz)))), (md, .inl (E.2.1, 4, .inl (fun zz => nI (XX zz))))] HZ) e5 hP
        have hD : va_D AZ [(x, .inr (7, [.ref ms, .ref mp, .int (nI pz), .ref mt, .int (nI len), .ref md, .int (nI sp), .int q1, .int q2, .int q3, .int q4, .int q5, .int (nI fm)])), (ms, .inl (E.2.1, 265, .inl (fun zz => nI (M zz)))), (md, .inl (E.2.1, 4, .inl (fun zz => nI ((sdL M Sd (g + 1)) zz))))] := Eq.subst (motive := fun XX : Nat → Nat => va_D AZ [(x, .inr (7, [.ref ms, .ref mp, .int (nI pz), .ref mt, .int (nI len), .ref md, .int (nI sp), .int q1, .int q2, .int q3, .int q4, .int q5, .int (nI fm)])), (ms, .inl (E.2.1, 265, .inl (fun zz => nI (M zz)))), (md, .inl (E.2.1, 4, .inl (fun zz => nI (XX zz))))]) e5 hD
        exact ih2 (g + 1) (by omega) (by omega) _ _ hP hD hS _ (lv_sub hl [0, 1] rfl)
  have e6 : (Sd : Nat → Nat) = sdL M Sd 0 := by first | rfl | (exact sdL_0 M Sd)
  have hP : va_P E.1 vwCl [(x, .inr (7, [.ref ms, .ref mp, .int (nI pz), .ref mt, .int (nI len), .ref md, .int (nI sp), .int q1, .int q2, .int q3, .int q4, .int q5, .int (nI fm)])), (ms, .inl (E.2.1, 265, .inl (fun zz => nI (M zz)))), (md, .inl (E.2.1, 4, .inl (fun zz => nI ((sdL M Sd 0) zz))))] HZ := Eq.subst (motive := fun XX : Nat → Nat => va_P E.1 vwCl [(x, .inr (7, [.ref ms, .ref mp, .int (nI pz), .ref mt, .int (nI len), .ref md, .int (nI sp), .int q1, .int q2, .int q3, .int q4, .int q5, .int (nI fm)])), (ms, .inl (E.2.1, 265, .inl (fun zz => nI (M zz)))), (md, .inl (E.2.1, 4, .inl (fun zz => nI (XX zz))))] HZ) e6 hP
  have hD : va_D AZ [(x, .inr (7, [.ref ms, .ref mp, .int (nI pz), .ref mt, .int (nI len), .ref md, .int (nI sp), .int q1, .int q2, .int q3, .int q4, .int q5, .int (nI fm)])), (ms, .inl (E.2.1, 265, .inl (fun zz => nI (M zz)))), (md, .inl (E.2.1, 4, .inl (fun zz => nI ((sdL M Sd 0) zz))))] := Eq.subst (motive := fun XX : Nat → Nat => va_D AZ [(x, .inr (7, [.ref ms, .ref mp, .int (nI pz), .ref mt, .int (nI len), .ref md, .int (nI sp), .int q1, .int q2, .int q3, .int q4, .int q5, .int (nI fm)])), (ms, .inl (E.2.1, 265, .inl (fun zz => nI (M zz)))), (md, .inl (E.2.1, 4, .inl (fun zz => nI (XX zz))))]) e6 hD
  exact L2_1 ((4 - 0) + 1) 0 (Nat.lt_succ_self _) (by omega) _ _ hP hD hS _ (lv_sub hl [0, 1] rfl)
theorem iwX7_moved_X7_c_X7_moved : ∀ w ∈ wsX70, w ∈ wsX7_moved := by decide +kernel
set_option maxHeartbeats 1000000 in
set_option maxRecDepth 100000 in
theorem c_X7_moved (l : Launch) (E : zE) (x ms mp mt md pz len sp fm : Nat) (q1 q2 q3 q4 q5 : Int32) (M Sd : Nat → Nat) (hn : M 0 ≤ 12) (hPb : ∀ i, i < 12 → mP M i ≤ 2400) (hHb : ∀ i, i < 12 → mH M i ≤ 2000) (hprn : ∀ i, i < 4 → mPr M i ≤ M 0) (hsd : ∀ i, i < 4 → Sd i ≤ 2400) : zV l yX7_moved wsX7_moved ({ frames := 5, cells := 0, slots := 0, locals := 114 }) E [.ref x] [(x, .inr (7, [.ref ms, .ref mp, .int (nI pz), .ref mt, .int (nI len), .ref md, .int (nI sp), .int q1, .int q2, .int q3, .int q4, .int q5, .int (nI fm)])), (ms, .inl (E.2.1, 265, .inl (fun zz => nI (M zz)))), (md, .inl (E.2.1, 4, .inl (fun zz => nI (Sd zz))))] (fun w' => w' = [(x, .inr (7, [.ref ms, .ref mp, .int (nI pz), .ref mt, .int (nI len), .ref md, .int (nI sp), .int q1, .int q2, .int q3, .int q4, .int q5, .int (nI fm)])), (ms, .inl (E.2.1, 265, .inl (fun zz => nI ((mvL M Sd 4) zz)))), (md, .inl (E.2.1, 4, .inl (fun zz => nI (Sd zz))))]) := by
  refine zV.start (own := RX7) rfl (by decide +kernel) rfl (Nat.le_of_ble_eq_true rfl) ?_
  intro pZ eZ sZ mZ argsZ belowZ methZ cZ QZ AZ hF hret HZ locsZ hP hD hS hG ls hl
  obtain ⟨hx, hb, hml, hown, hts⟩ := id hF
  have hl : lv_has ls 2 [(0, .ref x)] := hl
  refine lv_iconst (v := nI 0) hx hb dX7_moved_0 (by decide) ?_
  refine lv_istore_n (lv' := [(1, .int (nI 0)), (0, .ref x)]) hx hb dX7_moved_1 rfl hl (by decide) rfl (fun ls hl => ?_)
  have L2_1 : ∀ (fuelZ : Nat) (g : Nat), 4 - g < fuelZ → (g ≤ 4) → ∀ (HZ : Heap) (locsZ : List Loc), va_P E.1 vwCl [(x, .inr (7, [.ref ms, .ref mp, .int (nI pz), .ref mt, .int (nI len), .ref md, .int (nI sp), .int q1, .int q2, .int q3, .int q4, .int q5, .int (nI fm)])), (ms, .inl (E.2.1, 265, .inl (fun zz => nI ((mvL M Sd g) zz)))), (md, .inl (E.2.1, 4, .inl (fun zz => nI (Sd zz))))] HZ → va_D AZ [(x, .inr (7, [.ref ms, .ref mp, .int (nI pz), .ref mt, .int (nI len), .ref md, .int (nI sp), .int q1, .int q2, .int q3, .int q4, .int q5, .int (nI fm)])), (ms, .inl (E.2.1, 265, .inl (fun zz => nI ((mvL M Sd g) zz)))), (md, .inl (E.2.1, 4, .inl (fun zz => nI (Sd zz))))] → va_S AZ sZ.heap HZ locsZ → ∀ ls : Array Slot, lv_has ls 2 [(1, .int (nI g)), (0, .ref x)] → W pZ l eZ ({ frames := 5, cells := 0, slots := 0, locals := 114 }) sZ mZ argsZ belowZ methZ cZ HZ locsZ 0 0 QZ (F0 mZ 2 ls []) := by
    intro fuelZ
    induction fuelZ with
    | zero => intro g hm; exact absurd hm (Nat.not_lt_zero _)
    | succ fuelZ ih2 =>
      intro g hm i1 HZ locsZ hP hD hS ls hl
      refine lv_iload_n hx hb dX7_moved_2 rfl (lv_at hl 0 rfl) ?_
      refine lv_iconst (v := nI 4) hx hb dX7_moved_3 (by decide) ?_
      refine z_icmp_ge (a := g) (b := 4) (tgt := 32) hx hb dX7_moved_4 (by decide) (by omega) (by omega) (fun c2 => ?_) (fun c2 => ?_)
      · -- 4 t
        have e3 : (mvL M Sd g : Nat → Nat) = mvL M Sd 4 := by first | rfl | (rw [show g = 4 by omega])
        have hP : va_P E.1 vwCl [(x, .inr (7, [.ref ms, .ref mp, .int (nI pz), .ref mt, .int (nI len), .ref md, .int (nI sp), .int q1, .int q2, .int q3, .int q4, .int q5, .int (nI fm)])), (ms, .inl (E.2.1, 265, .inl (fun zz => nI ((mvL M Sd 4) zz)))), (md, .inl (E.2.1, 4, .inl (fun zz => nI (Sd zz))))] HZ := Eq.subst (motive := fun XX : Nat → Nat => va_P E.1 vwCl [(x, .inr (7, [.ref ms, .ref mp, .int (nI pz), .ref mt, .int (nI len), .ref md, .int (nI sp), .int q1, .int q2, .int q3, .int q4, .int q5, .int (nI fm)])), (ms, .inl (E.2.1, 265, .inl (fun zz => nI (XX zz)))), (md, .inl (E.2.1, 4, .inl (fun zz => nI (Sd zz))))] HZ) e3 hP
        have hD : va_D AZ [(x, .inr (7, [.ref ms, .ref mp, .int (nI pz), .ref mt, .int (nI len), .ref md, .int (nI sp), .int q1, .int q2, .int q3, .int q4, .int q5, .int (nI fm)])), (ms, .inl (E.2.1, 265, .inl (fun zz => nI ((mvL M Sd 4) zz)))), (md, .inl (E.2.1, 4, .inl (fun zz => nI (Sd zz))))] := Eq.subst (motive := fun XX : Nat → Nat => va_D AZ [(x, .inr (7, [.ref ms, .ref mp, .int (nI pz), .ref mt, .int (nI len), .ref md, .int (nI sp), .int q1, .int q2, .int q3, .int q4, .int q5, .int (nI fm)])), (ms, .inl (E.2.1, 265, .inl (fun zz => nI (XX zz)))), (md, .inl (E.2.1, 4, .inl (fun zz => nI (Sd zz))))]) e3 hD
        exact hret _ _ _ _ _ hP hS dX7_moved_32 rfl rfl
      · -- 4 f
        refine lv_aload_n hx hb dX7_moved_7 rfl (lv_at hl 1 rfl) ?_
        refine lv_iload_n hx hb dX7_moved_8 rfl (lv_at hl 0 rfl) ?_
        have hPc := zP_sub (w := [(x, .inr (7, [.ref ms, .ref mp, .int (nI pz), .ref mt, .int (nI len), .ref md, .int (nI sp), .int q1, .int q2, .int q3, .int q4, .int q5, .int (nI fm)])), (ms, .inl (E.2.1, 265, .inl (fun zz => nI ((mvL M Sd g) zz))))]) hP [0, 1] rfl
        refine z_rd (fun _ h => h) (va_runV (As := [.int (nI g)]) (rest := []) hF (c_X7_positionOf l E x ms mp mt md pz len sp fm g q1 q2 q3 q4 q5 (mvL M Sd g) (by rw [mvL_lo _ _ _ _ (by omega)]; exact hn) (fun i hi => by unfold mP; rw [mvL_lo _ _ _ _ (by omega)]; exact hPb i hi) (fun i hi => by unfold mH; rw [mvL_lo _ _ _ _ (by omega)]; exact hHb i hi) (fun i hi => by unfold mPr; rw [mvL_lo _ _ _ _ (by omega), mvL_lo _ _ _ _ (by omega)]; exact hprn i hi) (by omega)) (cwV 1 hts gX7_moved_X7_positionOf rfl rfl rfl (by decide +kernel) ⟨Nat.le_of_ble_eq_true rfl, Nat.le_of_ble_eq_true rfl⟩) (z_preRV (va_recv hG.1 hP (ci := 7) (q0 := 0) rfl rfl) hPc hG) rfl rfl hl.1 rfl (lv_room (Nat.le_of_ble_eq_true rfl)) dX7_moved_9 ⟨Nat.zero_le _, Nat.zero_le _⟩) (fun r4 hr4 => ?_)
        subst hr4
        have hmm : mSt (mvL M Sd g) g = mSt M g := mSt_lo (fun i hi => mvL_lo M Sd g i hi) (by omega) hn hprn
        have hms : mSt M g ≤ 2400 := mSt_le hn hPb hprn (by omega)
        refine lv_aload_n hx hb dX7_moved_12 rfl (lv_at hl 1 rfl) ?_
        refine va_get (D := E.1) (ci := 7) (v := .ref md) (C := RX7) (T := TX7) (N := 13) hx hb hts iwX7_moved_X7_c_X7_moved hown hG.1 hP 0 rfl rfl 5 (by decide) (hts (.fieldLink RX7 19 "FrettedStringsModel" "stood" "[I") (by decide +kernel)) (fun _ h9 => h9) rfl dX7_moved_13 ?_
        refine lv_iload_n hx hb dX7_moved_16 rfl (lv_at hl 0 rfl) ?_
        refine z_iald (j := g) (v := Sd g) hx hb hG hP 2 rfl (by omega) (by decide) (rfl) dX7_moved_17 ?_
        have b5 := hsd g (by omega)
        refine z_icmp_eq (a := mSt (mvL M Sd g) g) (b := Sd g) (tgt := 26) hx hb dX7_moved_18 (by decide) (by omega) (by omega) (fun c6 => ?_) (fun c6 => ?_)
        · -- 18 t
          refine z_iinc (k := 0) (d := 1) (lv' := [(1, .int (nI (g + 1))), (0, .ref x)]) hx hb dX7_moved_26 (by decide) hl rfl (by decide) rfl (fun ls hl => ?_)
          refine lv_goto (tgt := 2) hx hb dX7_moved_29 (by decide) ?_
          have e7 : (mvL M Sd g : Nat → Nat) = mvL M Sd (g + 1) := by first | rfl | (first | exact mvL_t (hmm ▸ (by assumption)) | exact mvL_f (hmm ▸ (by assumption)))
          have hP : va_P E.1 vwCl [(x, .inr (7, [.ref ms, .ref mp, .int (nI pz), .ref mt, .int (nI len), .ref md, .int (nI sp), .int q1, .int q2, .int q3, .int q4, .int q5, .int (nI fm)])), (ms, .inl (E.2.1, 265, .inl (fun zz => nI ((mvL M Sd (g + 1)) zz)))), (md, .inl (E.2.1, 4, .inl (fun zz => nI (Sd zz))))] HZ := Eq.subst (motive := fun XX : Nat → Nat => va_P E.1 vwCl [(x, .inr (7, [.ref ms, .ref mp, .int (nI pz), .ref mt, .int (nI len), .ref md, .int (nI sp), .int q1, .int q2, .int q3, .int q4, .int q5, .int (nI fm)])), (ms, .inl (E.2.1, 265, .inl (fun zz => nI (XX zz)))), (md, .inl (E.2.1, 4, .inl (fun zz => nI (Sd zz))))] HZ) e7 hP
          have hD : va_D AZ [(x, .inr (7, [.ref ms, .ref mp, .int (nI pz), .ref mt, .int (nI len), .ref md, .int (nI sp), .int q1, .int q2, .int q3, .int q4, .int q5, .int (nI fm)])), (ms, .inl (E.2.1, 265, .inl (fun zz => nI ((mvL M Sd (g + 1)) zz)))), (md, .inl (E.2.1, 4, .inl (fun zz => nI (Sd zz))))] := Eq.subst (motive := fun XX : Nat → Nat => va_D AZ [(x, .inr (7, [.ref ms, .ref mp, .int (nI pz), .ref mt, .int (nI len), .ref md, .int (nI sp), .int q1, .int q2, .int q3, .int q4, .int q5, .int (nI fm)])), (ms, .inl (E.2.1, 265, .inl (fun zz => nI (XX zz)))), (md, .inl (E.2.1, 4, .inl (fun zz => nI (Sd zz))))]) e7 hD
          exact ih2 (g + 1) (by omega) (by omega) _ _ hP hD hS _ (lv_sub hl [0, 1] rfl)
        · -- 18 f
          refine lv_aload_n hx hb dX7_moved_21 rfl (lv_at hl 1 rfl) ?_
          refine lv_iload_n hx hb dX7_moved_22 rfl (lv_at hl 0 rfl) ?_
          have hPc := zP_sub (w := [(x, .inr (7, [.ref ms, .ref mp, .int (nI pz), .ref mt, .int (nI len), .ref md, .int (nI sp), .int q1, .int q2, .int q3, .int q4, .int q5, .int (nI fm)])), (ms, .inl (E.2.1, 265, .inl (fun zz => nI ((mvL M Sd g) zz))))]) hP [0, 1] rfl
          have hDc := zD_sub (w := [(x, .inr (7, [.ref ms, .ref mp, .int (nI pz), .ref mt, .int (nI len), .ref md, .int (nI sp), .int q1, .int q2, .int q3, .int q4, .int q5, .int (nI fm)])), (ms, .inl (E.2.1, 265, .inl (fun zz => nI ((mvL M Sd g) zz))))]) hD [0, 1] (by decide) rfl
          refine z_vd [0, 1] (va_runV (As := [.int (nI g)]) (rest := []) hF (c_X7_rests l E x ms mp mt md pz len sp fm g q1 q2 q3 q4 q5 (mvL M Sd g) (by first | assumption | omega)) (cwV 1 hts gX7_moved_X7_rests rfl rfl rfl (by decide +kernel) ⟨Nat.le_of_ble_eq_true rfl, Nat.le_of_ble_eq_true rfl⟩) (z_preMV (va_recv hG.1 hP (ci := 7) (q0 := 0) rfl rfl) hPc hDc hG) rfl rfl hl.1 rfl (lv_room (Nat.le_of_ble_eq_true rfl)) dX7_moved_23 ⟨Nat.zero_le _, Nat.zero_le _⟩) hP hD hS rfl (fun w' HZ locsZ hw hP hD hS => ?_)
          subst hw
          have hP : va_P E.1 vwCl [(x, .inr (7, [.ref ms, .ref mp, .int (nI pz), .ref mt, .int (nI len), .ref md, .int (nI sp), .int q1, .int q2, .int q3, .int q4, .int q5, .int (nI fm)])), (ms, .inl (E.2.1, 265, .inl (fun zz => nI ((mq (mvL M Sd g) g 12) zz)))), (md, .inl (E.2.1, 4, .inl (fun zz => nI (Sd zz))))] _ := hP
          have hD : va_D AZ [(x, .inr (7, [.ref ms, .ref mp, .int (nI pz), .ref mt, .int (nI len), .ref md, .int (nI sp), .int q1, .int q2, .int q3, .int q4, .int q5, .int (nI fm)])), (ms, .inl (E.2.1, 265, .inl (fun zz => nI ((mq (mvL M Sd g) g 12) zz)))), (md, .inl (E.2.1, 4, .inl (fun zz => nI (Sd zz))))] := hD
          refine z_iinc (k := 0) (d := 1) (lv' := [(1, .int (nI (g + 1))), (0, .ref x)]) hx hb dX7_moved_26 (by decide) hl rfl (by decide) rfl (fun ls hl => ?_)
          refine lv_goto (tgt := 2) hx hb dX7_moved_29 (by decide) ?_
          have e8 : (mq (mvL M Sd g) g 12 : Nat → Nat) = mvL M Sd (g + 1) := by first | rfl | (first | exact mvL_t (hmm ▸ (by assumption)) | exact mvL_f (hmm ▸ (by assumption)))
          have hP : va_P E.1 vwCl [(x, .inr (7, [.ref ms, .ref mp, .int (nI pz), .ref mt, .int (nI len), .ref md, .int (nI sp), .int q1, .int q2, .int q3, .int q4, .int q5, .int (nI fm)])), (ms, .inl (E.2.1, 265, .inl (fun zz => nI ((mvL M Sd (g + 1)) zz)))), (md, .inl (E.2.1, 4, .inl (fun zz => nI (Sd zz))))] HZ := Eq.subst (motive := fun XX : Nat → Nat => va_P E.1 vwCl [(x, .inr (7, [.ref ms, .ref mp, .int (nI pz), .ref mt, .int (nI len), .ref md, .int (nI sp), .int q1, .int q2, .int q3, .int q4, .int q5, .int (nI fm)])), (ms, .inl (E.2.1, 265, .inl (fun zz => nI (XX zz)))), (md, .inl (E.2.1, 4, .inl (fun zz => nI (Sd zz))))] HZ) e8 hP
          have hD : va_D AZ [(x, .inr (7, [.ref ms, .ref mp, .int (nI pz), .ref mt, .int (nI len), .ref md, .int (nI sp), .int q1, .int q2, .int q3, .int q4, .int q5, .int (nI fm)])), (ms, .inl (E.2.1, 265, .inl (fun zz => nI ((mvL M Sd (g + 1)) zz)))), (md, .inl (E.2.1, 4, .inl (fun zz => nI (Sd zz))))] := Eq.subst (motive := fun XX : Nat → Nat => va_D AZ [(x, .inr (7, [.ref ms, .ref mp, .int (nI pz), .ref mt, .int (nI len), .ref md, .int (nI sp), .int q1, .int q2, .int q3, .int q4, .int q5, .int (nI fm)])), (ms, .inl (E.2.1, 265, .inl (fun zz => nI (XX zz)))), (md, .inl (E.2.1, 4, .inl (fun zz => nI (Sd zz))))]) e8 hD
          exact ih2 (g + 1) (by omega) (by omega) _ _ hP hD hS _ (lv_sub hl [0, 1] rfl)
  have e9 : (M : Nat → Nat) = mvL M Sd 0 := by first | rfl | (exact mvL_0 M Sd)
  have hP : va_P E.1 vwCl [(x, .inr (7, [.ref ms, .ref mp, .int (nI pz), .ref mt, .int (nI len), .ref md, .int (nI sp), .int q1, .int q2, .int q3, .int q4, .int q5, .int (nI fm)])), (ms, .inl (E.2.1, 265, .inl (fun zz => nI ((mvL M Sd 0) zz)))), (md, .inl (E.2.1, 4, .inl (fun zz => nI (Sd zz))))] HZ := Eq.subst (motive := fun XX : Nat → Nat => va_P E.1 vwCl [(x, .inr (7, [.ref ms, .ref mp, .int (nI pz), .ref mt, .int (nI len), .ref md, .int (nI sp), .int q1, .int q2, .int q3, .int q4, .int q5, .int (nI fm)])), (ms, .inl (E.2.1, 265, .inl (fun zz => nI (XX zz)))), (md, .inl (E.2.1, 4, .inl (fun zz => nI (Sd zz))))] HZ) e9 hP
  have hD : va_D AZ [(x, .inr (7, [.ref ms, .ref mp, .int (nI pz), .ref mt, .int (nI len), .ref md, .int (nI sp), .int q1, .int q2, .int q3, .int q4, .int q5, .int (nI fm)])), (ms, .inl (E.2.1, 265, .inl (fun zz => nI ((mvL M Sd 0) zz)))), (md, .inl (E.2.1, 4, .inl (fun zz => nI (Sd zz))))] := Eq.subst (motive := fun XX : Nat → Nat => va_D AZ [(x, .inr (7, [.ref ms, .ref mp, .int (nI pz), .ref mt, .int (nI len), .ref md, .int (nI sp), .int q1, .int q2, .int q3, .int q4, .int q5, .int (nI fm)])), (ms, .inl (E.2.1, 265, .inl (fun zz => nI (XX zz)))), (md, .inl (E.2.1, 4, .inl (fun zz => nI (Sd zz))))]) e9 hD
  exact L2_1 ((4 - 0) + 1) 0 (Nat.lt_succ_self _) (by omega) _ _ hP hD hS _ (lv_sub hl [0, 1] rfl)
theorem iwX7_records_X7_c_X7_records : ∀ w ∈ wsX70, w ∈ wsX7_records := by decide +kernel
set_option maxHeartbeats 1000000 in
set_option maxRecDepth 100000 in
theorem c_X7_records (l : Launch) (E : zE) (x ms mp mt md pz len sp fm : Nat) (q1 q2 q3 q4 q5 : Int32) (M Pa : Nat → Nat) (hpz : pz ≤ 4) : zV l yX7_records wsX7_records ({ frames := 0, cells := 0, slots := 0, locals := 0 }) E [.ref x] [(x, .inr (7, [.ref ms, .ref mp, .int (nI pz), .ref mt, .int (nI len), .ref md, .int (nI sp), .int q1, .int q2, .int q3, .int q4, .int q5, .int (nI fm)])), (ms, .inl (E.2.1, 265, .inl (fun zz => nI (M zz)))), (mp, .inl (E.2.1, 1060, .inl (fun zz => nI (Pa zz))))] (fun w' => w' = [(x, .inr (7, [.ref ms, .ref mp, .int (nI (rcS pz)), .ref mt, .int (nI len), .ref md, .int (nI sp), .int q1, .int q2, .int q3, .int q4, .int q5, .int (nI fm)])), (ms, .inl (E.2.1, 265, .inl (fun zz => nI (M zz)))), (mp, .inl (E.2.1, 1060, .inl (fun zz => nI ((rcP Pa M pz) zz))))]) := by
  refine zV.start (own := RX7) rfl (by decide +kernel) rfl (Nat.le_of_ble_eq_true rfl) ?_
  intro pZ eZ sZ mZ argsZ belowZ methZ cZ QZ AZ hF hret HZ locsZ hP hD hS hG ls hl
  obtain ⟨hx, hb, hml, hown, hts⟩ := id hF
  have hl : lv_has ls 2 [(0, .ref x)] := hl
  refine lv_aload_n hx hb dX7_records_0 rfl (lv_at hl 0 rfl) ?_
  refine va_get (D := E.1) (ci := 7) (v := .int (nI pz)) (C := RX7) (T := TX7) (N := 13) hx hb hts iwX7_records_X7_c_X7_records hown hG.1 hP 0 rfl rfl 2 (by decide) (hts (.fieldLink RX7 34 "FrettedStringsModel" "pasts" "I") (by decide +kernel)) (fun _ h9 => h9) rfl dX7_records_1 ?_
  refine lv_iconst (v := nI 4) hx hb dX7_records_4 (by decide) ?_
  refine z_icmp_ne (a := pz) (b := 4) (tgt := 49) hx hb dX7_records_5 (by decide) (by omega) (by omega) (fun c1 => ?_) (fun c1 => ?_)
  · -- 5 t
    refine lv_iconst (v := nI 0) hx hb dX7_records_49 (by decide) ?_
    refine lv_istore_n (lv' := [(1, .int (nI 0)), (0, .ref x)]) hx hb dX7_records_50 rfl hl (by decide) rfl (fun ls hl => ?_)
    have L51_2 : ∀ (fuelZ : Nat) (g : Nat) (Pb : Nat → Nat) (z9 : Nat), 265 - g < fuelZ → (g ≤ 265) → ((pz = 4 ∧ z9 = 3 ∧ Pb = rcA Pa 795) ∨ (pz ≠ 4 ∧ z9 = pz ∧ Pb = Pa)) → ∀ (HZ : Heap) (locsZ : List Loc), va_P E.1 vwCl [(x, .inr (7, [.ref ms, .ref mp, .int (nI z9), .ref mt, .int (nI len), .ref md, .int (nI sp), .int q1, .int q2, .int q3, .int q4, .int q5, .int (nI fm)])), (ms, .inl (E.2.1, 265, .inl (fun zz => nI (M zz)))), (mp, .inl (E.2.1, 1060, .inl (fun zz => nI ((rcB Pb M (265 * z9) g) zz))))] HZ → va_D AZ [(x, .inr (7, [.ref ms, .ref mp, .int (nI z9), .ref mt, .int (nI len), .ref md, .int (nI sp), .int q1, .int q2, .int q3, .int q4, .int q5, .int (nI fm)])), (ms, .inl (E.2.1, 265, .inl (fun zz => nI (M zz)))), (mp, .inl (E.2.1, 1060, .inl (fun zz => nI ((rcB Pb M (265 * z9) g) zz))))] → va_S AZ sZ.heap HZ locsZ → ∀ ls : Array Slot, lv_has ls 2 [(1, .int (nI g)), (0, .ref x)] → W pZ l eZ ({ frames := 0, cells := 0, slots := 0, locals := 0 }) sZ mZ argsZ belowZ methZ cZ HZ locsZ 0 0 QZ (F0 mZ 51 ls []) := by
      intro fuelZ
      induction fuelZ with
      | zero => intro g Pb z9 hm; exact absurd hm (Nat.not_lt_zero _)
      | succ fuelZ ih51 =>
        intro g Pb z9 hm j1 hz HZ locsZ hP hD hS ls hl
        refine lv_iload_n hx hb dX7_records_51 rfl (lv_at hl 0 rfl) ?_
        refine lv_sipush (v := nI 265) hx hb dX7_records_52 (by decide) ?_
        refine z_icmp_ge (a := g) (b := 265) (tgt := 85) hx hb dX7_records_55 (by decide) (by omega) (by omega) (fun c3 => ?_) (fun c3 => ?_)
        · -- 55 t
          refine lv_aload_n hx hb dX7_records_85 rfl (lv_at hl 1 rfl) ?_
          refine lv_dup hx hb dX7_records_86 rfl ?_
          refine va_get (D := E.1) (ci := 7) (v := .int (nI z9)) (C := RX7) (T := TX7) (N := 13) hx hb hts iwX7_records_X7_c_X7_records hown hG.1 hP 0 rfl rfl 2 (by decide) (hts (.fieldLink RX7 34 "FrettedStringsModel" "pasts" "I") (by decide +kernel)) (fun _ h9 => h9) rfl dX7_records_87 ?_
          refine lv_iconst (v := nI 1) hx hb dX7_records_90 (by decide) ?_
          refine z_iadd (a := z9) (b := 1) hx hb dX7_records_91 ?_
          refine va_put (D := E.1) (ci := 7) (v := .int (nI (z9 + 1))) (ty := .int) (C := RX7) (T := TX7) (N := 13) hx hb hts iwX7_records_X7_c_X7_records tyX7 tyX7_ok nmX7 hown hG.1 hP hD hS 0 rfl rfl 2 (by decide) (hts (.fieldLink RX7 34 "FrettedStringsModel" "pasts" "I") (by decide +kernel)) (fun _ h9 => h9) rfl (by decide +kernel) rfl rfl (Nat.le_of_ble_eq_true rfl) dX7_records_92 (fun HZ locsZ hP hD hS => ?_)
          have hP : va_P E.1 vwCl [(x, .inr (7, [.ref ms, .ref mp, .int (nI (z9 + 1)), .ref mt, .int (nI len), .ref md, .int (nI sp), .int q1, .int q2, .int q3, .int q4, .int q5, .int (nI fm)])), (ms, .inl (E.2.1, 265, .inl (fun zz => nI (M zz)))), (mp, .inl (E.2.1, 1060, .inl (fun zz => nI ((rcB Pb M (265 * z9) g) zz))))] _ := hP
          have hD : va_D AZ [(x, .inr (7, [.ref ms, .ref mp, .int (nI (z9 + 1)), .ref mt, .int (nI len), .ref md, .int (nI sp), .int q1, .int q2, .int q3, .int q4, .int q5, .int (nI fm)])), (ms, .inl (E.2.1, 265, .inl (fun zz => nI (M zz)))), (mp, .inl (E.2.1, 1060, .inl (fun zz => nI ((rcB Pb M (265 * z9) g) zz))))] := hD
          have e4 : nI (z9 + 1) = nI (rcS pz) := by first | rfl | (rw [rcS_e hz])
          have hP : va_P E.1 vwCl [(x, .inr (7, [.ref ms, .ref mp, .int (nI (rcS pz)), .ref mt, .int (nI len), .ref md, .int (nI sp), .int q1, .int q2, .int q3, .int q4, .int q5, .int (nI fm)])), (ms, .inl (E.2.1, 265, .inl (fun zz => nI (M zz)))), (mp, .inl (E.2.1, 1060, .inl (fun zz => nI ((rcB Pb M (265 * z9) g) zz))))] HZ := Eq.subst (motive := fun XX : Int32 => va_P E.1 vwCl [(x, .inr (7, [.ref ms, .ref mp, .int XX, .ref mt, .int (nI len), .ref md, .int (nI sp), .int q1, .int q2, .int q3, .int q4, .int q5, .int (nI fm)])), (ms, .inl (E.2.1, 265, .inl (fun zz => nI (M zz)))), (mp, .inl (E.2.1, 1060, .inl (fun zz => nI ((rcB Pb M (265 * z9) g) zz))))] HZ) e4 hP
          have hD : va_D AZ [(x, .inr (7, [.ref ms, .ref mp, .int (nI (rcS pz)), .ref mt, .int (nI len), .ref md, .int (nI sp), .int q1, .int q2, .int q3, .int q4, .int q5, .int (nI fm)])), (ms, .inl (E.2.1, 265, .inl (fun zz => nI (M zz)))), (mp, .inl (E.2.1, 1060, .inl (fun zz => nI ((rcB Pb M (265 * z9) g) zz))))] := Eq.subst (motive := fun XX : Int32 => va_D AZ [(x, .inr (7, [.ref ms, .ref mp, .int XX, .ref mt, .int (nI len), .ref md, .int (nI sp), .int q1, .int q2, .int q3, .int q4, .int q5, .int (nI fm)])), (ms, .inl (E.2.1, 265, .inl (fun zz => nI (M zz)))), (mp, .inl (E.2.1, 1060, .inl (fun zz => nI ((rcB Pb M (265 * z9) g) zz))))]) e4 hD
          have e5 : (rcB Pb M (265 * z9) g : Nat → Nat) = rcP Pa M pz := by first | rfl | (rw [show g = 265 by omega]; exact rcP_e hz)
          have hP : va_P E.1 vwCl [(x, .inr (7, [.ref ms, .ref mp, .int (nI (rcS pz)), .ref mt, .int (nI len), .ref md, .int (nI sp), .int q1, .int q2, .int q3, .int q4, .int q5, .int (nI fm)])), (ms, .inl (E.2.1, 265, .inl (fun zz => nI (M zz)))), (mp, .inl (E.2.1, 1060, .inl (fun zz => nI ((rcP Pa M pz) zz))))] HZ := Eq.subst (motive := fun XX : Nat → Nat => va_P E.1 vwCl [(x, .inr (7, [.ref ms, .ref mp, .int (nI (rcS pz)), .ref mt, .int (nI len), .ref md, .int (nI sp), .int q1, .int q2, .int q3, .int q4, .int q5, .int (nI fm)])), (ms, .inl (E.2.1, 265, .inl (fun zz => nI (M zz)))), (mp, .inl (E.2.1, 1060, .inl (fun zz => nI (XX zz))))] HZ) e5 hP
          have hD : va_D AZ [(x, .inr (7, [.ref ms, .ref mp, .int (nI (rcS pz)), .ref mt, .int (nI len), .ref md, .int (nI sp), .int q1, .int q2, .int q3, .int q4, .int q5, .int (nI fm)])), (ms, .inl (E.2.1, 265, .inl (fun zz => nI (M zz)))), (mp, .inl (E.2.1, 1060, .inl (fun zz => nI ((rcP Pa M pz) zz))))] := Eq.subst (motive := fun XX : Nat → Nat => va_D AZ [(x, .inr (7, [.ref ms, .ref mp, .int (nI (rcS pz)), .ref mt, .int (nI len), .ref md, .int (nI sp), .int q1, .int q2, .int q3, .int q4, .int q5, .int (nI fm)])), (ms, .inl (E.2.1, 265, .inl (fun zz => nI (M zz)))), (mp, .inl (E.2.1, 1060, .inl (fun zz => nI (XX zz))))]) e5 hD
          exact hret _ _ _ _ _ hP hS dX7_records_95 rfl rfl
        · -- 55 f
          refine lv_aload_n hx hb dX7_records_58 rfl (lv_at hl 1 rfl) ?_
          refine va_get (D := E.1) (ci := 7) (v := .ref mp) (C := RX7) (T := TX7) (N := 13) hx hb hts iwX7_records_X7_c_X7_records hown hG.1 hP 0 rfl rfl 1 (by decide) (hts (.fieldLink RX7 13 "FrettedStringsModel" "past" "[I") (by decide +kernel)) (fun _ h9 => h9) rfl dX7_records_59 ?_
          refine lv_sipush (v := nI 265) hx hb dX7_records_62 (by decide) ?_
          refine lv_aload_n hx hb dX7_records_65 rfl (lv_at hl 1 rfl) ?_
          refine va_get (D := E.1) (ci := 7) (v := .int (nI z9)) (C := RX7) (T := TX7) (N := 13) hx hb hts iwX7_records_X7_c_X7_records hown hG.1 hP 0 rfl rfl 2 (by decide) (hts (.fieldLink RX7 34 "FrettedStringsModel" "pasts" "I") (by decide +kernel)) (fun _ h9 => h9) rfl dX7_records_66 ?_
          refine z_imul (a := 265) (b := z9) hx hb dX7_records_69 ?_
          refine lv_iload_n hx hb dX7_records_70 rfl (lv_at hl 0 rfl) ?_
          refine z_iadd (a := 265 * z9) (b := g) hx hb dX7_records_71 ?_
          refine lv_aload_n hx hb dX7_records_72 rfl (lv_at hl 1 rfl) ?_
          refine va_get (D := E.1) (ci := 7) (v := .ref ms) (C := RX7) (T := TX7) (N := 13) hx hb hts iwX7_records_X7_c_X7_records hown hG.1 hP 0 rfl rfl 0 (by decide) (hts (.fieldLink RX7 7 "FrettedStringsModel" "st" "[I") (by decide +kernel)) (fun _ h9 => h9) rfl dX7_records_73 ?_
          refine lv_iload_n hx hb dX7_records_76 rfl (lv_at hl 0 rfl) ?_
          refine z_iald (j := g) (v := M g) hx hb hG hP 1 rfl (by omega) (by decide) (rfl) dX7_records_77 ?_
          refine z_iast (j := (265 * z9) + g) (v := M g) (g := va_up (rcB Pb M (265 * z9) g) ((265 * z9) + g) (M g)) hx hb hG hP hD hS 2 rfl (by omega) (by decide) (rfl) dX7_records_78 (fun HZ locsZ hP hD hS => ?_)
          have hP : va_P E.1 vwCl [(x, .inr (7, [.ref ms, .ref mp, .int (nI z9), .ref mt, .int (nI len), .ref md, .int (nI sp), .int q1, .int q2, .int q3, .int q4, .int q5, .int (nI fm)])), (ms, .inl (E.2.1, 265, .inl (fun zz => nI (M zz)))), (mp, .inl (E.2.1, 1060, .inl (fun zz => nI ((va_up (rcB Pb M (265 * z9) g) ((265 * z9) + g) (M g)) zz))))] _ := hP
          have hD : va_D AZ [(x, .inr (7, [.ref ms, .ref mp, .int (nI z9), .ref mt, .int (nI len), .ref md, .int (nI sp), .int q1, .int q2, .int q3, .int q4, .int q5, .int (nI fm)])), (ms, .inl (E.2.1, 265, .inl (fun zz => nI (M zz)))), (mp, .inl (E.2.1, 1060, .inl (fun zz => nI ((va_up (rcB Pb M (265 * z9) g) ((265 * z9) + g) (M g)) zz))))] := hD
          refine z_iinc (k := 0) (d := 1) (lv' := [(1, .int (nI (g + 1))), (0, .ref x)]) hx hb dX7_records_79 (by decide) hl rfl (by decide) rfl (fun ls hl => ?_)
          refine lv_goto (tgt := 51) hx hb dX7_records_82 (by decide) ?_
          have e6 : (va_up (rcB Pb M (265 * z9) g) ((265 * z9) + g) (M g) : Nat → Nat) = rcB Pb M (265 * z9) (g + 1) := by first | rfl | (exact rcB_s Pb M (265 * z9) g)
          have hP : va_P E.1 vwCl [(x, .inr (7, [.ref ms, .ref mp, .int (nI z9), .ref mt, .int (nI len), .ref md, .int (nI sp), .int q1, .int q2, .int q3, .int q4, .int q5, .int (nI fm)])), (ms, .inl (E.2.1, 265, .inl (fun zz => nI (M zz)))), (mp, .inl (E.2.1, 1060, .inl (fun zz => nI ((rcB Pb M (265 * z9) (g + 1)) zz))))] HZ := Eq.subst (motive := fun XX : Nat → Nat => va_P E.1 vwCl [(x, .inr (7, [.ref ms, .ref mp, .int (nI z9), .ref mt, .int (nI len), .ref md, .int (nI sp), .int q1, .int q2, .int q3, .int q4, .int q5, .int (nI fm)])), (ms, .inl (E.2.1, 265, .inl (fun zz => nI (M zz)))), (mp, .inl (E.2.1, 1060, .inl (fun zz => nI (XX zz))))] HZ) e6 hP
          have hD : va_D AZ [(x, .inr (7, [.ref ms, .ref mp, .int (nI z9), .ref mt, .int (nI len), .ref md, .int (nI sp), .int q1, .int q2, .int q3, .int q4, .int q5, .int (nI fm)])), (ms, .inl (E.2.1, 265, .inl (fun zz => nI (M zz)))), (mp, .inl (E.2.1, 1060, .inl (fun zz => nI ((rcB Pb M (265 * z9) (g + 1)) zz))))] := Eq.subst (motive := fun XX : Nat → Nat => va_D AZ [(x, .inr (7, [.ref ms, .ref mp, .int (nI z9), .ref mt, .int (nI len), .ref md, .int (nI sp), .int q1, .int q2, .int q3, .int q4, .int q5, .int (nI fm)])), (ms, .inl (E.2.1, 265, .inl (fun zz => nI (M zz)))), (mp, .inl (E.2.1, 1060, .inl (fun zz => nI (XX zz))))]) e6 hD
          exact ih51 (g + 1) Pb z9 (by omega) (by omega) (hz) _ _ hP hD hS _ (lv_sub hl [0, 1] rfl)
    have e7 : (Pa : Nat → Nat) = rcB Pa M (265 * pz) 0 := by first | rfl | (exact rcB_0 _ M _)
    have hP : va_P E.1 vwCl [(x, .inr (7, [.ref ms, .ref mp, .int (nI pz), .ref mt, .int (nI len), .ref md, .int (nI sp), .int q1, .int q2, .int q3, .int q4, .int q5, .int (nI fm)])), (ms, .inl (E.2.1, 265, .inl (fun zz => nI (M zz)))), (mp, .inl (E.2.1, 1060, .inl (fun zz => nI ((rcB Pa M (265 * pz) 0) zz))))] HZ := Eq.subst (motive := fun XX : Nat → Nat => va_P E.1 vwCl [(x, .inr (7, [.ref ms, .ref mp, .int (nI pz), .ref mt, .int (nI len), .ref md, .int (nI sp), .int q1, .int q2, .int q3, .int q4, .int q5, .int (nI fm)])), (ms, .inl (E.2.1, 265, .inl (fun zz => nI (M zz)))), (mp, .inl (E.2.1, 1060, .inl (fun zz => nI (XX zz))))] HZ) e7 hP
    have hD : va_D AZ [(x, .inr (7, [.ref ms, .ref mp, .int (nI pz), .ref mt, .int (nI len), .ref md, .int (nI sp), .int q1, .int q2, .int q3, .int q4, .int q5, .int (nI fm)])), (ms, .inl (E.2.1, 265, .inl (fun zz => nI (M zz)))), (mp, .inl (E.2.1, 1060, .inl (fun zz => nI ((rcB Pa M (265 * pz) 0) zz))))] := Eq.subst (motive := fun XX : Nat → Nat => va_D AZ [(x, .inr (7, [.ref ms, .ref mp, .int (nI pz), .ref mt, .int (nI len), .ref md, .int (nI sp), .int q1, .int q2, .int q3, .int q4, .int q5, .int (nI fm)])), (ms, .inl (E.2.1, 265, .inl (fun zz => nI (M zz)))), (mp, .inl (E.2.1, 1060, .inl (fun zz => nI (XX zz))))]) e7 hD
    exact L51_2 ((265 - 0) + 1) 0 Pa pz (Nat.lt_succ_self _) (by omega) (by first | exact Or.inl ⟨by assumption, by omega, by rw [show g = 795 by omega]⟩ | exact Or.inr ⟨by assumption, rfl, rfl⟩) _ _ hP hD hS _ (lv_sub hl [0, 1] rfl)
  · -- 5 f
    refine lv_iconst (v := nI 0) hx hb dX7_records_8 (by decide) ?_
    refine lv_istore_n (lv' := [(1, .int (nI 0)), (0, .ref x)]) hx hb dX7_records_9 rfl hl (by decide) rfl (fun ls hl => ?_)
    have L10_8 : ∀ (fuelZ : Nat) (g : Nat), 795 - g < fuelZ → (g ≤ 795) → ∀ (HZ : Heap) (locsZ : List Loc), va_P E.1 vwCl [(x, .inr (7, [.ref ms, .ref mp, .int (nI pz), .ref mt, .int (nI len), .ref md, .int (nI sp), .int q1, .int q2, .int q3, .int q4, .int q5, .int (nI fm)])), (ms, .inl (E.2.1, 265, .inl (fun zz => nI (M zz)))), (mp, .inl (E.2.1, 1060, .inl (fun zz => nI ((rcA Pa g) zz))))] HZ → va_D AZ [(x, .inr (7, [.ref ms, .ref mp, .int (nI pz), .ref mt, .int (nI len), .ref md, .int (nI sp), .int q1, .int q2, .int q3, .int q4, .int q5, .int (nI fm)])), (ms, .inl (E.2.1, 265, .inl (fun zz => nI (M zz)))), (mp, .inl (E.2.1, 1060, .inl (fun zz => nI ((rcA Pa g) zz))))] → va_S AZ sZ.heap HZ locsZ → ∀ ls : Array Slot, lv_has ls 2 [(1, .int (nI g)), (0, .ref x)] → W pZ l eZ ({ frames := 0, cells := 0, slots := 0, locals := 0 }) sZ mZ argsZ belowZ methZ cZ HZ locsZ 0 0 QZ (F0 mZ 10 ls []) := by
      intro fuelZ
      induction fuelZ with
      | zero => intro g hm; exact absurd hm (Nat.not_lt_zero _)
      | succ fuelZ ih10 =>
        intro g hm i1 HZ locsZ hP hD hS ls hl
        refine lv_iload_n hx hb dX7_records_10 rfl (lv_at hl 0 rfl) ?_
        refine lv_sipush (v := nI 795) hx hb dX7_records_11 (by decide) ?_
        refine z_icmp_ge (a := g) (b := 795) (tgt := 39) hx hb dX7_records_14 (by decide) (by omega) (by omega) (fun c9 => ?_) (fun c9 => ?_)
        · -- 14 t
          refine lv_aload_n hx hb dX7_records_39 rfl (lv_at hl 1 rfl) ?_
          refine lv_dup hx hb dX7_records_40 rfl ?_
          refine va_get (D := E.1) (ci := 7) (v := .int (nI pz)) (C := RX7) (T := TX7) (N := 13) hx hb hts iwX7_records_X7_c_X7_records hown hG.1 hP 0 rfl rfl 2 (by decide) (hts (.fieldLink RX7 34 "FrettedStringsModel" "pasts" "I") (by decide +kernel)) (fun _ h9 => h9) rfl dX7_records_41 ?_
          refine lv_iconst (v := nI 1) hx hb dX7_records_44 (by decide) ?_
          refine z_isub (a := pz) (b := 1) hx hb dX7_records_45 (by omega) ?_
          refine va_put (D := E.1) (ci := 7) (v := .int (nI (pz - 1))) (ty := .int) (C := RX7) (T := TX7) (N := 13) hx hb hts iwX7_records_X7_c_X7_records tyX7 tyX7_ok nmX7 hown hG.1 hP hD hS 0 rfl rfl 2 (by decide) (hts (.fieldLink RX7 34 "FrettedStringsModel" "pasts" "I") (by decide +kernel)) (fun _ h9 => h9) rfl (by decide +kernel) rfl rfl (Nat.le_of_ble_eq_true rfl) dX7_records_46 (fun HZ locsZ hP hD hS => ?_)
          have hP : va_P E.1 vwCl [(x, .inr (7, [.ref ms, .ref mp, .int (nI (pz - 1)), .ref mt, .int (nI len), .ref md, .int (nI sp), .int q1, .int q2, .int q3, .int q4, .int q5, .int (nI fm)])), (ms, .inl (E.2.1, 265, .inl (fun zz => nI (M zz)))), (mp, .inl (E.2.1, 1060, .inl (fun zz => nI ((rcA Pa g) zz))))] _ := hP
          have hD : va_D AZ [(x, .inr (7, [.ref ms, .ref mp, .int (nI (pz - 1)), .ref mt, .int (nI len), .ref md, .int (nI sp), .int q1, .int q2, .int q3, .int q4, .int q5, .int (nI fm)])), (ms, .inl (E.2.1, 265, .inl (fun zz => nI (M zz)))), (mp, .inl (E.2.1, 1060, .inl (fun zz => nI ((rcA Pa g) zz))))] := hD
          refine lv_iconst (v := nI 0) hx hb dX7_records_49 (by decide) ?_
          refine lv_istore_n (lv' := [(1, .int (nI 0)), (0, .ref x)]) hx hb dX7_records_50 rfl hl (by decide) rfl (fun ls hl => ?_)
          have L51_10 : ∀ (fuelZ : Nat) (g : Nat) (Pb : Nat → Nat) (z9 : Nat), 265 - g < fuelZ → (g ≤ 265) → ((pz = 4 ∧ z9 = 3 ∧ Pb = rcA Pa 795) ∨ (pz ≠ 4 ∧ z9 = pz ∧ Pb = Pa)) → ∀ (HZ : Heap) (locsZ : List Loc), va_P E.1 vwCl [(x, .inr (7, [.ref ms, .ref mp, .int (nI z9), .ref mt, .int (nI len), .ref md, .int (nI sp), .int q1, .int q2, .int q3, .int q4, .int q5, .int (nI fm)])), (ms, .inl (E.2.1, 265, .inl (fun zz => nI (M zz)))), (mp, .inl (E.2.1, 1060, .inl (fun zz => nI ((rcB Pb M (265 * z9) g) zz))))] HZ → va_D AZ [(x, .inr (7, [.ref ms, .ref mp, .int (nI z9), .ref mt, .int (nI len), .ref md, .int (nI sp), .int q1, .int q2, .int q3, .int q4, .int q5, .int (nI fm)])), (ms, .inl (E.2.1, 265, .inl (fun zz => nI (M zz)))), (mp, .inl (E.2.1, 1060, .inl (fun zz => nI ((rcB Pb M (265 * z9) g) zz))))] → va_S AZ sZ.heap HZ locsZ → ∀ ls : Array Slot, lv_has ls 2 [(1, .int (nI g)), (0, .ref x)] → W pZ l eZ ({ frames := 0, cells := 0, slots := 0, locals := 0 }) sZ mZ argsZ belowZ methZ cZ HZ locsZ 0 0 QZ (F0 mZ 51 ls []) := by
            intro fuelZ
            induction fuelZ with
            | zero => intro g Pb z9 hm; exact absurd hm (Nat.not_lt_zero _)
            | succ fuelZ ih51 =>
              intro g Pb z9 hm j1 hz HZ locsZ hP hD hS ls hl
              refine lv_iload_n hx hb dX7_records_51 rfl (lv_at hl 0 rfl) ?_
              refine lv_sipush (v := nI 265) hx hb dX7_records_52 (by decide) ?_
              refine z_icmp_ge (a := g) (b := 265) (tgt := 85) hx hb dX7_records_55 (by decide) (by omega) (by omega) (fun c11 => ?_) (fun c11 => ?_)
              · -- 55 t
                refine lv_aload_n hx hb dX7_records_85 rfl (lv_at hl 1 rfl) ?_
                refine lv_dup hx hb dX7_records_86 rfl ?_
                refine va_get (D := E.1) (ci := 7) (v := .int (nI z9)) (C := RX7) (T := TX7) (N := 13) hx hb hts iwX7_records_X7_c_X7_records hown hG.1 hP 0 rfl rfl 2 (by decide) (hts (.fieldLink RX7 34 "FrettedStringsModel" "pasts" "I") (by decide +kernel)) (fun _ h9 => h9) rfl dX7_records_87 ?_
                refine lv_iconst (v := nI 1) hx hb dX7_records_90 (by decide) ?_
                refine z_iadd (a := z9) (b := 1) hx hb dX7_records_91 ?_
                refine va_put (D := E.1) (ci := 7) (v := .int (nI (z9 + 1))) (ty := .int) (C := RX7) (T := TX7) (N := 13) hx hb hts iwX7_records_X7_c_X7_records tyX7 tyX7_ok nmX7 hown hG.1 hP hD hS 0 rfl rfl 2 (by decide) (hts (.fieldLink RX7 34 "FrettedStringsModel" "pasts" "I") (by decide +kernel)) (fun _ h9 => h9) rfl (by decide +kernel) rfl rfl (Nat.le_of_ble_eq_true rfl) dX7_records_92 (fun HZ locsZ hP hD hS => ?_)
                have hP : va_P E.1 vwCl [(x, .inr (7, [.ref ms, .ref mp, .int (nI (z9 + 1)), .ref mt, .int (nI len), .ref md, .int (nI sp), .int q1, .int q2, .int q3, .int q4, .int q5, .int (nI fm)])), (ms, .inl (E.2.1, 265, .inl (fun zz => nI (M zz)))), (mp, .inl (E.2.1, 1060, .inl (fun zz => nI ((rcB Pb M (265 * z9) g) zz))))] _ := hP
                have hD : va_D AZ [(x, .inr (7, [.ref ms, .ref mp, .int (nI (z9 + 1)), .ref mt, .int (nI len), .ref md, .int (nI sp), .int q1, .int q2, .int q3, .int q4, .int q5, .int (nI fm)])), (ms, .inl (E.2.1, 265, .inl (fun zz => nI (M zz)))), (mp, .inl (E.2.1, 1060, .inl (fun zz => nI ((rcB Pb M (265 * z9) g) zz))))] := hD
                have e12 : nI (z9 + 1) = nI (rcS pz) := by first | rfl | (rw [rcS_e hz])
                have hP : va_P E.1 vwCl [(x, .inr (7, [.ref ms, .ref mp, .int (nI (rcS pz)), .ref mt, .int (nI len), .ref md, .int (nI sp), .int q1, .int q2, .int q3, .int q4, .int q5, .int (nI fm)])), (ms, .inl (E.2.1, 265, .inl (fun zz => nI (M zz)))), (mp, .inl (E.2.1, 1060, .inl (fun zz => nI ((rcB Pb M (265 * z9) g) zz))))] HZ := Eq.subst (motive := fun XX : Int32 => va_P E.1 vwCl [(x, .inr (7, [.ref ms, .ref mp, .int XX, .ref mt, .int (nI len), .ref md, .int (nI sp), .int q1, .int q2, .int q3, .int q4, .int q5, .int (nI fm)])), (ms, .inl (E.2.1, 265, .inl (fun zz => nI (M zz)))), (mp, .inl (E.2.1, 1060, .inl (fun zz => nI ((rcB Pb M (265 * z9) g) zz))))] HZ) e12 hP
                have hD : va_D AZ [(x, .inr (7, [.ref ms, .ref mp, .int (nI (rcS pz)), .ref mt, .int (nI len), .ref md, .int (nI sp), .int q1, .int q2, .int q3, .int q4, .int q5, .int (nI fm)])), (ms, .inl (E.2.1, 265, .inl (fun zz => nI (M zz)))), (mp, .inl (E.2.1, 1060, .inl (fun zz => nI ((rcB Pb M (265 * z9) g) zz))))] := Eq.subst (motive := fun XX : Int32 => va_D AZ [(x, .inr (7, [.ref ms, .ref mp, .int XX, .ref mt, .int (nI len), .ref md, .int (nI sp), .int q1, .int q2, .int q3, .int q4, .int q5, .int (nI fm)])), (ms, .inl (E.2.1, 265, .inl (fun zz => nI (M zz)))), (mp, .inl (E.2.1, 1060, .inl (fun zz => nI ((rcB Pb M (265 * z9) g) zz))))]) e12 hD
                have e13 : (rcB Pb M (265 * z9) g : Nat → Nat) = rcP Pa M pz := by first | rfl | (rw [show g = 265 by omega]; exact rcP_e hz)
                have hP : va_P E.1 vwCl [(x, .inr (7, [.ref ms, .ref mp, .int (nI (rcS pz)), .ref mt, .int (nI len), .ref md, .int (nI sp), .int q1, .int q2, .int q3, .int q4, .int q5, .int (nI fm)])), (ms, .inl (E.2.1, 265, .inl (fun zz => nI (M zz)))), (mp, .inl (E.2.1, 1060, .inl (fun zz => nI ((rcP Pa M pz) zz))))] HZ := Eq.subst (motive := fun XX : Nat → Nat => va_P E.1 vwCl [(x, .inr (7, [.ref ms, .ref mp, .int (nI (rcS pz)), .ref mt, .int (nI len), .ref md, .int (nI sp), .int q1, .int q2, .int q3, .int q4, .int q5, .int (nI fm)])), (ms, .inl (E.2.1, 265, .inl (fun zz => nI (M zz)))), (mp, .inl (E.2.1, 1060, .inl (fun zz => nI (XX zz))))] HZ) e13 hP
                have hD : va_D AZ [(x, .inr (7, [.ref ms, .ref mp, .int (nI (rcS pz)), .ref mt, .int (nI len), .ref md, .int (nI sp), .int q1, .int q2, .int q3, .int q4, .int q5, .int (nI fm)])), (ms, .inl (E.2.1, 265, .inl (fun zz => nI (M zz)))), (mp, .inl (E.2.1, 1060, .inl (fun zz => nI ((rcP Pa M pz) zz))))] := Eq.subst (motive := fun XX : Nat → Nat => va_D AZ [(x, .inr (7, [.ref ms, .ref mp, .int (nI (rcS pz)), .ref mt, .int (nI len), .ref md, .int (nI sp), .int q1, .int q2, .int q3, .int q4, .int q5, .int (nI fm)])), (ms, .inl (E.2.1, 265, .inl (fun zz => nI (M zz)))), (mp, .inl (E.2.1, 1060, .inl (fun zz => nI (XX zz))))]) e13 hD
                exact hret _ _ _ _ _ hP hS dX7_records_95 rfl rfl
              · -- 55 f
                refine lv_aload_n hx hb dX7_records_58 rfl (lv_at hl 1 rfl) ?_
                refine va_get (D := E.1) (ci := 7) (v := .ref mp) (C := RX7) (T := TX7) (N := 13) hx hb hts iwX7_records_X7_c_X7_records hown hG.1 hP 0 rfl rfl 1 (by decide) (hts (.fieldLink RX7 13 "FrettedStringsModel" "past" "[I") (by decide +kernel)) (fun _ h9 => h9) rfl dX7_records_59 ?_
                refine lv_sipush (v := nI 265) hx hb dX7_records_62 (by decide) ?_
                refine lv_aload_n hx hb dX7_records_65 rfl (lv_at hl 1 rfl) ?_
                refine va_get (D := E.1) (ci := 7) (v := .int (nI z9)) (C := RX7) (T := TX7) (N := 13) hx hb hts iwX7_records_X7_c_X7_records hown hG.1 hP 0 rfl rfl 2 (by decide) (hts (.fieldLink RX7 34 "FrettedStringsModel" "pasts" "I") (by decide +kernel)) (fun _ h9 => h9) rfl dX7_records_66 ?_
                refine z_imul (a := 265) (b := z9) hx hb dX7_records_69 ?_
                refine lv_iload_n hx hb dX7_records_70 rfl (lv_at hl 0 rfl) ?_
                refine z_iadd (a := 265 * z9) (b := g) hx hb dX7_records_71 ?_
                refine lv_aload_n hx hb dX7_records_72 rfl (lv_at hl 1 rfl) ?_
                refine va_get (D := E.1) (ci := 7) (v := .ref ms) (C := RX7) (T := TX7) (N := 13) hx hb hts iwX7_records_X7_c_X7_records hown hG.1 hP 0 rfl rfl 0 (by decide) (hts (.fieldLink RX7 7 "FrettedStringsModel" "st" "[I") (by decide +kernel)) (fun _ h9 => h9) rfl dX7_records_73 ?_
                refine lv_iload_n hx hb dX7_records_76 rfl (lv_at hl 0 rfl) ?_
                refine z_iald (j := g) (v := M g) hx hb hG hP 1 rfl (by omega) (by decide) (rfl) dX7_records_77 ?_
                refine z_iast (j := (265 * z9) + g) (v := M g) (g := va_up (rcB Pb M (265 * z9) g) ((265 * z9) + g) (M g)) hx hb hG hP hD hS 2 rfl (by omega) (by decide) (rfl) dX7_records_78 (fun HZ locsZ hP hD hS => ?_)
                have hP : va_P E.1 vwCl [(x, .inr (7, [.ref ms, .ref mp, .int (nI z9), .ref mt, .int (nI len), .ref md, .int (nI sp), .int q1, .int q2, .int q3, .int q4, .int q5, .int (nI fm)])), (ms, .inl (E.2.1, 265, .inl (fun zz => nI (M zz)))), (mp, .inl (E.2.1, 1060, .inl (fun zz => nI ((va_up (rcB Pb M (265 * z9) g) ((265 * z9) + g) (M g)) zz))))] _ := hP
                have hD : va_D AZ [(x, .inr (7, [.ref ms, .ref mp, .int (nI z9), .ref mt, .int (nI len), .ref md, .int (nI sp), .int q1, .int q2, .int q3, .int q4, .int q5, .int (nI fm)])), (ms, .inl (E.2.1, 265, .inl (fun zz => nI (M zz)))), (mp, .inl (E.2.1, 1060, .inl (fun zz => nI ((va_up (rcB Pb M (265 * z9) g) ((265 * z9) + g) (M g)) zz))))] := hD
                refine z_iinc (k := 0) (d := 1) (lv' := [(1, .int (nI (g + 1))), (0, .ref x)]) hx hb dX7_records_79 (by decide) hl rfl (by decide) rfl (fun ls hl => ?_)
                refine lv_goto (tgt := 51) hx hb dX7_records_82 (by decide) ?_
                have e14 : (va_up (rcB Pb M (265 * z9) g) ((265 * z9) + g) (M g) : Nat → Nat) = rcB Pb M (265 * z9) (g + 1) := by first | rfl | (exact rcB_s Pb M (265 * z9) g)
                have hP : va_P E.1 vwCl [(x, .inr (7, [.ref ms, .ref mp, .int (nI z9), .ref mt, .int (nI len), .ref md, .int (nI sp), .int q1, .int q2, .int q3, .int q4, .int q5, .int (nI fm)])), (ms, .inl (E.2.1, 265, .inl (fun zz => nI (M zz)))), (mp, .inl (E.2.1, 1060, .inl (fun zz => nI ((rcB Pb M (265 * z9) (g + 1)) zz))))] HZ := Eq.subst (motive := fun XX : Nat → Nat => va_P E.1 vwCl [(x, .inr (7, [.ref ms, .ref mp, .int (nI z9), .ref mt, .int (nI len), .ref md, .int (nI sp), .int q1, .int q2, .int q3, .int q4, .int q5, .int (nI fm)])), (ms, .inl (E.2.1, 265, .inl (fun zz => nI (M zz)))), (mp, .inl (E.2.1, 1060, .inl (fun zz => nI (XX zz))))] HZ) e14 hP
                have hD : va_D AZ [(x, .inr (7, [.ref ms, .ref mp, .int (nI z9), .ref mt, .int (nI len), .ref md, .int (nI sp), .int q1, .int q2, .int q3, .int q4, .int q5, .int (nI fm)])), (ms, .inl (E.2.1, 265, .inl (fun zz => nI (M zz)))), (mp, .inl (E.2.1, 1060, .inl (fun zz => nI ((rcB Pb M (265 * z9) (g + 1)) zz))))] := Eq.subst (motive := fun XX : Nat → Nat => va_D AZ [(x, .inr (7, [.ref ms, .ref mp, .int (nI z9), .ref mt, .int (nI len), .ref md, .int (nI sp), .int q1, .int q2, .int q3, .int q4, .int q5, .int (nI fm)])), (ms, .inl (E.2.1, 265, .inl (fun zz => nI (M zz)))), (mp, .inl (E.2.1, 1060, .inl (fun zz => nI (XX zz))))]) e14 hD
                exact ih51 (g + 1) Pb z9 (by omega) (by omega) (hz) _ _ hP hD hS _ (lv_sub hl [0, 1] rfl)
          have e15 : (rcA Pa g : Nat → Nat) = rcB (rcA Pa g) M (265 * (pz - 1)) 0 := by first | rfl | (exact rcB_0 _ M _)
          have hP : va_P E.1 vwCl [(x, .inr (7, [.ref ms, .ref mp, .int (nI (pz - 1)), .ref mt, .int (nI len), .ref md, .int (nI sp), .int q1, .int q2, .int q3, .int q4, .int q5, .int (nI fm)])), (ms, .inl (E.2.1, 265, .inl (fun zz => nI (M zz)))), (mp, .inl (E.2.1, 1060, .inl (fun zz => nI ((rcB (rcA Pa g) M (265 * (pz - 1)) 0) zz))))] HZ := Eq.subst (motive := fun XX : Nat → Nat => va_P E.1 vwCl [(x, .inr (7, [.ref ms, .ref mp, .int (nI (pz - 1)), .ref mt, .int (nI len), .ref md, .int (nI sp), .int q1, .int q2, .int q3, .int q4, .int q5, .int (nI fm)])), (ms, .inl (E.2.1, 265, .inl (fun zz => nI (M zz)))), (mp, .inl (E.2.1, 1060, .inl (fun zz => nI (XX zz))))] HZ) e15 hP
          have hD : va_D AZ [(x, .inr (7, [.ref ms, .ref mp, .int (nI (pz - 1)), .ref mt, .int (nI len), .ref md, .int (nI sp), .int q1, .int q2, .int q3, .int q4, .int q5, .int (nI fm)])), (ms, .inl (E.2.1, 265, .inl (fun zz => nI (M zz)))), (mp, .inl (E.2.1, 1060, .inl (fun zz => nI ((rcB (rcA Pa g) M (265 * (pz - 1)) 0) zz))))] := Eq.subst (motive := fun XX : Nat → Nat => va_D AZ [(x, .inr (7, [.ref ms, .ref mp, .int (nI (pz - 1)), .ref mt, .int (nI len), .ref md, .int (nI sp), .int q1, .int q2, .int q3, .int q4, .int q5, .int (nI fm)])), (ms, .inl (E.2.1, 265, .inl (fun zz => nI (M zz)))), (mp, .inl (E.2.1, 1060, .inl (fun zz => nI (XX zz))))]) e15 hD
          exact L51_10 ((265 - 0) + 1) 0 (rcA Pa g) (pz - 1) (Nat.lt_succ_self _) (by omega) (by first | exact Or.inl ⟨by assumption, by omega, by rw [show g = 795 by omega]⟩ | exact Or.inr ⟨by assumption, rfl, rfl⟩) _ _ hP hD hS _ (lv_sub hl [0, 1] rfl)
        · -- 14 f
          refine lv_aload_n hx hb dX7_records_17 rfl (lv_at hl 1 rfl) ?_
          refine va_get (D := E.1) (ci := 7) (v := .ref mp) (C := RX7) (T := TX7) (N := 13) hx hb hts iwX7_records_X7_c_X7_records hown hG.1 hP 0 rfl rfl 1 (by decide) (hts (.fieldLink RX7 13 "FrettedStringsModel" "past" "[I") (by decide +kernel)) (fun _ h9 => h9) rfl dX7_records_18 ?_
          refine lv_iload_n hx hb dX7_records_21 rfl (lv_at hl 0 rfl) ?_
          refine lv_aload_n hx hb dX7_records_22 rfl (lv_at hl 1 rfl) ?_
          refine va_get (D := E.1) (ci := 7) (v := .ref mp) (C := RX7) (T := TX7) (N := 13) hx hb hts iwX7_records_X7_c_X7_records hown hG.1 hP 0 rfl rfl 1 (by decide) (hts (.fieldLink RX7 13 "FrettedStringsModel" "past" "[I") (by decide +kernel)) (fun _ h9 => h9) rfl dX7_records_23 ?_
          refine lv_iload_n hx hb dX7_records_26 rfl (lv_at hl 0 rfl) ?_
          refine lv_sipush (v := nI 265) hx hb dX7_records_27 (by decide) ?_
          refine z_iadd (a := g) (b := 265) hx hb dX7_records_30 ?_
          refine z_iald (j := g + 265) (v := (rcA Pa g) (g + 265)) hx hb hG hP 2 rfl (by omega) (by decide) (rfl) dX7_records_31 ?_
          refine z_iast (j := g) (v := (rcA Pa g) (g + 265)) (g := va_up (rcA Pa g) g ((rcA Pa g) (g + 265))) hx hb hG hP hD hS 2 rfl (by omega) (by decide) (rfl) dX7_records_32 (fun HZ locsZ hP hD hS => ?_)
          have hP : va_P E.1 vwCl [(x, .inr (7, [.ref ms, .ref mp, .int (nI pz), .ref mt, .int (nI len), .ref md, .int (nI sp), .int q1, .int q2, .int q3, .int q4, .int q5, .int (nI fm)])), (ms, .inl (E.2.1, 265, .inl (fun zz => nI (M zz)))), (mp, .inl (E.2.1, 1060, .inl (fun zz => nI ((va_up (rcA Pa g) g ((rcA Pa g) (g + 265))) zz))))] _ := hP
          have hD : va_D AZ [(x, .inr (7, [.ref ms, .ref mp, .int (nI pz), .ref mt, .int (nI len), .ref md, .int (nI sp), .int q1, .int q2, .int q3, .int q4, .int q5, .int (nI fm)])), (ms, .inl (E.2.1, 265, .inl (fun zz => nI (M zz)))), (mp, .inl (E.2.1, 1060, .inl (fun zz => nI ((va_up (rcA Pa g) g ((rcA Pa g) (g + 265))) zz))))] := hD
          refine z_iinc (k := 0) (d := 1) (lv' := [(1, .int (nI (g + 1))), (0, .ref x)]) hx hb dX7_records_33 (by decide) hl rfl (by decide) rfl (fun ls hl => ?_)
          refine lv_goto (tgt := 10) hx hb dX7_records_36 (by decide) ?_
          have e16 : (va_up (rcA Pa g) g ((rcA Pa g) (g + 265)) : Nat → Nat) = rcA Pa (g + 1) := by first | rfl | (exact rcA_s Pa g)
          have hP : va_P E.1 vwCl [(x, .inr (7, [.ref ms, .ref mp, .int (nI pz), .ref mt, .int (nI len), .ref md, .int (nI sp), .int q1, .int q2, .int q3, .int q4, .int q5, .int (nI fm)])), (ms, .inl (E.2.1, 265, .inl (fun zz => nI (M zz)))), (mp, .inl (E.2.1, 1060, .inl (fun zz => nI ((rcA Pa (g + 1)) zz))))] HZ := Eq.subst (motive := fun XX : Nat → Nat => va_P E.1 vwCl [(x, .inr (7, [.ref ms, .ref mp, .int (nI pz), .ref mt, .int (nI len), .ref md, .int (nI sp), .int q1, .int q2, .int q3, .int q4, .int q5, .int (nI fm)])), (ms, .inl (E.2.1, 265, .inl (fun zz => nI (M zz)))), (mp, .inl (E.2.1, 1060, .inl (fun zz => nI (XX zz))))] HZ) e16 hP
          have hD : va_D AZ [(x, .inr (7, [.ref ms, .ref mp, .int (nI pz), .ref mt, .int (nI len), .ref md, .int (nI sp), .int q1, .int q2, .int q3, .int q4, .int q5, .int (nI fm)])), (ms, .inl (E.2.1, 265, .inl (fun zz => nI (M zz)))), (mp, .inl (E.2.1, 1060, .inl (fun zz => nI ((rcA Pa (g + 1)) zz))))] := Eq.subst (motive := fun XX : Nat → Nat => va_D AZ [(x, .inr (7, [.ref ms, .ref mp, .int (nI pz), .ref mt, .int (nI len), .ref md, .int (nI sp), .int q1, .int q2, .int q3, .int q4, .int q5, .int (nI fm)])), (ms, .inl (E.2.1, 265, .inl (fun zz => nI (M zz)))), (mp, .inl (E.2.1, 1060, .inl (fun zz => nI (XX zz))))]) e16 hD
          exact ih10 (g + 1) (by omega) (by omega) _ _ hP hD hS _ (lv_sub hl [0, 1] rfl)
    have e17 : (Pa : Nat → Nat) = rcA Pa 0 := by first | rfl | (exact rcA_0 Pa)
    have hP : va_P E.1 vwCl [(x, .inr (7, [.ref ms, .ref mp, .int (nI pz), .ref mt, .int (nI len), .ref md, .int (nI sp), .int q1, .int q2, .int q3, .int q4, .int q5, .int (nI fm)])), (ms, .inl (E.2.1, 265, .inl (fun zz => nI (M zz)))), (mp, .inl (E.2.1, 1060, .inl (fun zz => nI ((rcA Pa 0) zz))))] HZ := Eq.subst (motive := fun XX : Nat → Nat => va_P E.1 vwCl [(x, .inr (7, [.ref ms, .ref mp, .int (nI pz), .ref mt, .int (nI len), .ref md, .int (nI sp), .int q1, .int q2, .int q3, .int q4, .int q5, .int (nI fm)])), (ms, .inl (E.2.1, 265, .inl (fun zz => nI (M zz)))), (mp, .inl (E.2.1, 1060, .inl (fun zz => nI (XX zz))))] HZ) e17 hP
    have hD : va_D AZ [(x, .inr (7, [.ref ms, .ref mp, .int (nI pz), .ref mt, .int (nI len), .ref md, .int (nI sp), .int q1, .int q2, .int q3, .int q4, .int q5, .int (nI fm)])), (ms, .inl (E.2.1, 265, .inl (fun zz => nI (M zz)))), (mp, .inl (E.2.1, 1060, .inl (fun zz => nI ((rcA Pa 0) zz))))] := Eq.subst (motive := fun XX : Nat → Nat => va_D AZ [(x, .inr (7, [.ref ms, .ref mp, .int (nI pz), .ref mt, .int (nI len), .ref md, .int (nI sp), .int q1, .int q2, .int q3, .int q4, .int q5, .int (nI fm)])), (ms, .inl (E.2.1, 265, .inl (fun zz => nI (M zz)))), (mp, .inl (E.2.1, 1060, .inl (fun zz => nI (XX zz))))]) e17 hD
    exact L10_8 ((795 - 0) + 1) 0 (Nat.lt_succ_self _) (by omega) _ _ hP hD hS _ (lv_sub hl [0, 1] rfl)
theorem iwX7_undo_X7_c_X7_undo : ∀ w ∈ wsX70, w ∈ wsX7_undo := by decide +kernel
set_option maxHeartbeats 1000000 in
set_option maxRecDepth 100000 in
theorem c_X7_undo (l : Launch) (E : zE) (x ms mp mt md pz len sp fm : Nat) (q1 q2 q3 q4 q5 : Int32) (M Pa : Nat → Nat) (hpz : pz ≤ 4) : zM l yX7_undo wsX7_undo ({ frames := 0, cells := 0, slots := 0, locals := 0 }) E [.ref x] [(x, .inr (7, [.ref ms, .ref mp, .int (nI pz), .ref mt, .int (nI len), .ref md, .int (nI sp), .int q1, .int q2, .int q3, .int q4, .int q5, .int (nI fm)])), (ms, .inl (E.2.1, 265, .inl (fun zz => nI (M zz)))), (mp, .inl (E.2.1, 1060, .inl (fun zz => nI (Pa zz))))] (fun r w' => (r = (-2) ∧ (pz = 0) ∧ w' = [(x, .inr (7, [.ref ms, .ref mp, .int (nI pz), .ref mt, .int (nI len), .ref md, .int (nI sp), .int q1, .int q2, .int q3, .int q4, .int q5, .int (nI fm)])), (ms, .inl (E.2.1, 265, .inl (fun zz => nI (M zz)))), (mp, .inl (E.2.1, 1060, .inl (fun zz => nI (Pa zz))))]) ∨ (r = nI (pz - 1) ∧ (0 < pz) ∧ w' = [(x, .inr (7, [.ref ms, .ref mp, .int (nI (pz - 1)), .ref mt, .int (nI len), .ref md, .int (nI sp), .int q1, .int q2, .int q3, .int q4, .int q5, .int (nI fm)])), (ms, .inl (E.2.1, 265, .inl (fun zz => nI ((unM M Pa (265 * (pz - 1)) 265) zz)))), (mp, .inl (E.2.1, 1060, .inl (fun zz => nI (Pa zz))))])) := by
  refine zM.start (own := RX7) rfl (by decide +kernel) rfl (Nat.le_of_ble_eq_true rfl) (fun _ _ _ => rfl) ?_
  intro pZ eZ sZ mZ argsZ belowZ methZ cZ QZ AZ hF hret HZ locsZ hP hD hS hG ls hl
  obtain ⟨hx, hb, hml, hown, hts⟩ := id hF
  have hl : lv_has ls 2 [(0, .ref x)] := hl
  refine lv_aload_n hx hb dX7_undo_0 rfl (lv_at hl 0 rfl) ?_
  refine va_get (D := E.1) (ci := 7) (v := .int (nI pz)) (C := RX7) (T := TX7) (N := 13) hx hb hts iwX7_undo_X7_c_X7_undo hown hG.1 hP 0 rfl rfl 2 (by decide) (hts (.fieldLink RX7 34 "FrettedStringsModel" "pasts" "I") (by decide +kernel)) (fun _ h9 => h9) rfl dX7_undo_1 ?_
  refine z_if_ne (a := pz) (tgt := 10) hx hb dX7_undo_4 (by decide) (by omega) (fun c1 => ?_) (fun c1 => ?_)
  · -- 4 t
    refine lv_aload_n hx hb dX7_undo_10 rfl (lv_at hl 0 rfl) ?_
    refine lv_dup hx hb dX7_undo_11 rfl ?_
    refine va_get (D := E.1) (ci := 7) (v := .int (nI pz)) (C := RX7) (T := TX7) (N := 13) hx hb hts iwX7_undo_X7_c_X7_undo hown hG.1 hP 0 rfl rfl 2 (by decide) (hts (.fieldLink RX7 34 "FrettedStringsModel" "pasts" "I") (by decide +kernel)) (fun _ h9 => h9) rfl dX7_undo_12 ?_
    refine lv_iconst (v := nI 1) hx hb dX7_undo_15 (by decide) ?_
    refine z_isub (a := pz) (b := 1) hx hb dX7_undo_16 (by omega) ?_
    refine va_put (D := E.1) (ci := 7) (v := .int (nI (pz - 1))) (ty := .int) (C := RX7) (T := TX7) (N := 13) hx hb hts iwX7_undo_X7_c_X7_undo tyX7 tyX7_ok nmX7 hown hG.1 hP hD hS 0 rfl rfl 2 (by decide) (hts (.fieldLink RX7 34 "FrettedStringsModel" "pasts" "I") (by decide +kernel)) (fun _ h9 => h9) rfl (by decide +kernel) rfl rfl (Nat.le_of_ble_eq_true rfl) dX7_undo_17 (fun HZ locsZ hP hD hS => ?_)
    have hP : va_P E.1 vwCl [(x, .inr (7, [.ref ms, .ref mp, .int (nI (pz - 1)), .ref mt, .int (nI len), .ref md, .int (nI sp), .int q1, .int q2, .int q3, .int q4, .int q5, .int (nI fm)])), (ms, .inl (E.2.1, 265, .inl (fun zz => nI (M zz)))), (mp, .inl (E.2.1, 1060, .inl (fun zz => nI (Pa zz))))] _ := hP
    have hD : va_D AZ [(x, .inr (7, [.ref ms, .ref mp, .int (nI (pz - 1)), .ref mt, .int (nI len), .ref md, .int (nI sp), .int q1, .int q2, .int q3, .int q4, .int q5, .int (nI fm)])), (ms, .inl (E.2.1, 265, .inl (fun zz => nI (M zz)))), (mp, .inl (E.2.1, 1060, .inl (fun zz => nI (Pa zz))))] := hD
    refine lv_iconst (v := nI 0) hx hb dX7_undo_20 (by decide) ?_
    refine lv_istore_n (lv' := [(1, .int (nI 0)), (0, .ref x)]) hx hb dX7_undo_21 rfl hl (by decide) rfl (fun ls hl => ?_)
    have L22_2 : ∀ (fuelZ : Nat) (g : Nat), 265 - g < fuelZ → (g ≤ 265) → ∀ (HZ : Heap) (locsZ : List Loc), va_P E.1 vwCl [(x, .inr (7, [.ref ms, .ref mp, .int (nI (pz - 1)), .ref mt, .int (nI len), .ref md, .int (nI sp), .int q1, .int q2, .int q3, .int q4, .int q5, .int (nI fm)])), (ms, .inl (E.2.1, 265, .inl (fun zz => nI ((unM M Pa (265 * (pz - 1)) g) zz)))), (mp, .inl (E.2.1, 1060, .inl (fun zz => nI (Pa zz))))] HZ → va_D AZ [(x, .inr (7, [.ref ms, .ref mp, .int (nI (pz - 1)), .ref mt, .int (nI len), .ref md, .int (nI sp), .int q1, .int q2, .int q3, .int q4, .int q5, .int (nI fm)])), (ms, .inl (E.2.1, 265, .inl (fun zz => nI ((unM M Pa (265 * (pz - 1)) g) zz)))), (mp, .inl (E.2.1, 1060, .inl (fun zz => nI (Pa zz))))] → va_S AZ sZ.heap HZ locsZ → ∀ ls : Array Slot, lv_has ls 2 [(1, .int (nI g)), (0, .ref x)] → W pZ l eZ ({ frames := 0, cells := 0, slots := 0, locals := 0 }) sZ mZ argsZ belowZ methZ cZ HZ locsZ 0 0 QZ (F0 mZ 22 ls []) := by
      intro fuelZ
      induction fuelZ with
      | zero => intro g hm; exact absurd hm (Nat.not_lt_zero _)
      | succ fuelZ ih22 =>
        intro g hm j1 HZ locsZ hP hD hS ls hl
        refine lv_iload_n hx hb dX7_undo_22 rfl (lv_at hl 0 rfl) ?_
        refine lv_sipush (v := nI 265) hx hb dX7_undo_23 (by decide) ?_
        refine z_icmp_ge (a := g) (b := 265) (tgt := 56) hx hb dX7_undo_26 (by decide) (by omega) (by omega) (fun c3 => ?_) (fun c3 => ?_)
        · -- 26 t
          refine lv_aload_n hx hb dX7_undo_56 rfl (lv_at hl 1 rfl) ?_
          refine va_get (D := E.1) (ci := 7) (v := .int (nI (pz - 1))) (C := RX7) (T := TX7) (N := 13) hx hb hts iwX7_undo_X7_c_X7_undo hown hG.1 hP 0 rfl rfl 2 (by decide) (hts (.fieldLink RX7 34 "FrettedStringsModel" "pasts" "I") (by decide +kernel)) (fun _ h9 => h9) rfl dX7_undo_57 ?_
          have e4 : (unM M Pa (265 * (pz - 1)) g : Nat → Nat) = unM M Pa (265 * (pz - 1)) 265 := by first | rfl | (rw [show g = 265 by omega])
          have hP : va_P E.1 vwCl [(x, .inr (7, [.ref ms, .ref mp, .int (nI (pz - 1)), .ref mt, .int (nI len), .ref md, .int (nI sp), .int q1, .int q2, .int q3, .int q4, .int q5, .int (nI fm)])), (ms, .inl (E.2.1, 265, .inl (fun zz => nI ((unM M Pa (265 * (pz - 1)) 265) zz)))), (mp, .inl (E.2.1, 1060, .inl (fun zz => nI (Pa zz))))] HZ := Eq.subst (motive := fun XX : Nat → Nat => va_P E.1 vwCl [(x, .inr (7, [.ref ms, .ref mp, .int (nI (pz - 1)), .ref mt, .int (nI len), .ref md, .int (nI sp), .int q1, .int q2, .int q3, .int q4, .int q5, .int (nI fm)])), (ms, .inl (E.2.1, 265, .inl (fun zz => nI (XX zz)))), (mp, .inl (E.2.1, 1060, .inl (fun zz => nI (Pa zz))))] HZ) e4 hP
          have hD : va_D AZ [(x, .inr (7, [.ref ms, .ref mp, .int (nI (pz - 1)), .ref mt, .int (nI len), .ref md, .int (nI sp), .int q1, .int q2, .int q3, .int q4, .int q5, .int (nI fm)])), (ms, .inl (E.2.1, 265, .inl (fun zz => nI ((unM M Pa (265 * (pz - 1)) 265) zz)))), (mp, .inl (E.2.1, 1060, .inl (fun zz => nI (Pa zz))))] := Eq.subst (motive := fun XX : Nat → Nat => va_D AZ [(x, .inr (7, [.ref ms, .ref mp, .int (nI (pz - 1)), .ref mt, .int (nI len), .ref md, .int (nI sp), .int q1, .int q2, .int q3, .int q4, .int q5, .int (nI fm)])), (ms, .inl (E.2.1, 265, .inl (fun zz => nI (XX zz)))), (mp, .inl (E.2.1, 1060, .inl (fun zz => nI (Pa zz))))]) e4 hD
          exact hret _ _ _ _ _ _ hP hS dX7_undo_60 rfl (Or.inr (⟨rfl, by omega, rfl⟩))
        · -- 26 f
          refine lv_aload_n hx hb dX7_undo_29 rfl (lv_at hl 1 rfl) ?_
          refine va_get (D := E.1) (ci := 7) (v := .ref ms) (C := RX7) (T := TX7) (N := 13) hx hb hts iwX7_undo_X7_c_X7_undo hown hG.1 hP 0 rfl rfl 0 (by decide) (hts (.fieldLink RX7 7 "FrettedStringsModel" "st" "[I") (by decide +kernel)) (fun _ h9 => h9) rfl dX7_undo_30 ?_
          refine lv_iload_n hx hb dX7_undo_33 rfl (lv_at hl 0 rfl) ?_
          refine lv_aload_n hx hb dX7_undo_34 rfl (lv_at hl 1 rfl) ?_
          refine va_get (D := E.1) (ci := 7) (v := .ref mp) (C := RX7) (T := TX7) (N := 13) hx hb hts iwX7_undo_X7_c_X7_undo hown hG.1 hP 0 rfl rfl 1 (by decide) (hts (.fieldLink RX7 13 "FrettedStringsModel" "past" "[I") (by decide +kernel)) (fun _ h9 => h9) rfl dX7_undo_35 ?_
          refine lv_sipush (v := nI 265) hx hb dX7_undo_38 (by decide) ?_
          refine lv_aload_n hx hb dX7_undo_41 rfl (lv_at hl 1 rfl) ?_
          refine va_get (D := E.1) (ci := 7) (v := .int (nI (pz - 1))) (C := RX7) (T := TX7) (N := 13) hx hb hts iwX7_undo_X7_c_X7_undo hown hG.1 hP 0 rfl rfl 2 (by decide) (hts (.fieldLink RX7 34 "FrettedStringsModel" "pasts" "I") (by decide +kernel)) (fun _ h9 => h9) rfl dX7_undo_42 ?_
          refine z_imul (a := 265) (b := pz - 1) hx hb dX7_undo_45 ?_
          refine lv_iload_n hx hb dX7_undo_46 rfl (lv_at hl 0 rfl) ?_
          refine z_iadd (a := 265 * (pz - 1)) (b := g) hx hb dX7_undo_47 ?_
          refine z_iald (j := (265 * (pz - 1)) + g) (v := Pa ((265 * (pz - 1)) + g)) hx hb hG hP 2 rfl (by omega) (by decide) (rfl) dX7_undo_48 ?_
          refine z_iast (j := g) (v := Pa ((265 * (pz - 1)) + g)) (g := va_up (unM M Pa (265 * (pz - 1)) g) g (Pa ((265 * (pz - 1)) + g))) hx hb hG hP hD hS 1 rfl (by omega) (by decide) (rfl) dX7_undo_49 (fun HZ locsZ hP hD hS => ?_)
          have hP : va_P E.1 vwCl [(x, .inr (7, [.ref ms, .ref mp, .int (nI (pz - 1)), .ref mt, .int (nI len), .ref md, .int (nI sp), .int q1, .int q2, .int q3, .int q4, .int q5, .int (nI fm)])), (ms, .inl (E.2.1, 265, .inl (fun zz => nI ((va_up (unM M Pa (265 * (pz - 1)) g) g (Pa ((265 * (pz - 1)) + g))) zz)))), (mp, .inl (E.2.1, 1060, .inl (fun zz => nI (Pa zz))))] _ := hP
          have hD : va_D AZ [(x, .inr (7, [.ref ms, .ref mp, .int (nI (pz - 1)), .ref mt, .int (nI len), .ref md, .int (nI sp), .int q1, .int q2, .int q3, .int q4, .int q5, .int (nI fm)])), (ms, .inl (E.2.1, 265, .inl (fun zz => nI ((va_up (unM M Pa (265 * (pz - 1)) g) g (Pa ((265 * (pz - 1)) + g))) zz)))), (mp, .inl (E.2.1, 1060, .inl (fun zz => nI (Pa zz))))] := hD
          refine z_iinc (k := 0) (d := 1) (lv' := [(1, .int (nI (g + 1))), (0, .ref x)]) hx hb dX7_undo_50 (by decide) hl rfl (by decide) rfl (fun ls hl => ?_)
          refine lv_goto (tgt := 22) hx hb dX7_undo_53 (by decide) ?_
          have e5 : (va_up (unM M Pa (265 * (pz - 1)) g) g (Pa ((265 * (pz - 1)) + g)) : Nat → Nat) = unM M Pa (265 * (pz - 1)) (g + 1) := by first | rfl | (exact unM_s M Pa (265 * (pz - 1)) g)
          have hP : va_P E.1 vwCl [(x, .inr (7, [.ref ms, .ref mp, .int (nI (pz - 1)), .ref mt, .int (nI len), .ref md, .int (nI sp), .int q1, .int q2, .int q3, .int q4, .int q5, .int (nI fm)])), (ms, .inl (E.2.1, 265, .inl (fun zz => nI ((unM M Pa (265 * (pz - 1)) (g + 1)) zz)))), (mp, .inl (E.2.1, 1060, .inl (fun zz => nI (Pa zz))))] HZ := Eq.subst (motive := fun XX : Nat → Nat => va_P E.1 vwCl [(x, .inr (7, [.ref ms, .ref mp, .int (nI (pz - 1)), .ref mt, .int (nI len), .ref md, .int (nI sp), .int q1, .int q2, .int q3, .int q4, .int q5, .int (nI fm)])), (ms, .inl (E.2.1, 265, .inl (fun zz => nI (XX zz)))), (mp, .inl (E.2.1, 1060, .inl (fun zz => nI (Pa zz))))] HZ) e5 hP
          have hD : va_D AZ [(x, .inr (7, [.ref ms, .ref mp, .int (nI (pz - 1)), .ref mt, .int (nI len), .ref md, .int (nI sp), .int q1, .int q2, .int q3, .int q4, .int q5, .int (nI fm)])), (ms, .inl (E.2.1, 265, .inl (fun zz => nI ((unM M Pa (265 * (pz - 1)) (g + 1)) zz)))), (mp, .inl (E.2.1, 1060, .inl (fun zz => nI (Pa zz))))] := Eq.subst (motive := fun XX : Nat → Nat => va_D AZ [(x, .inr (7, [.ref ms, .ref mp, .int (nI (pz - 1)), .ref mt, .int (nI len), .ref md, .int (nI sp), .int q1, .int q2, .int q3, .int q4, .int q5, .int (nI fm)])), (ms, .inl (E.2.1, 265, .inl (fun zz => nI (XX zz)))), (mp, .inl (E.2.1, 1060, .inl (fun zz => nI (Pa zz))))]) e5 hD
          exact ih22 (g + 1) (by omega) (by omega) _ _ hP hD hS _ (lv_sub hl [0, 1] rfl)
    have e6 : (M : Nat → Nat) = unM M Pa (265 * (pz - 1)) 0 := by first | rfl | (exact unM_0 M Pa _)
    have hP : va_P E.1 vwCl [(x, .inr (7, [.ref ms, .ref mp, .int (nI (pz - 1)), .ref mt, .int (nI len), .ref md, .int (nI sp), .int q1, .int q2, .int q3, .int q4, .int q5, .int (nI fm)])), (ms, .inl (E.2.1, 265, .inl (fun zz => nI ((unM M Pa (265 * (pz - 1)) 0) zz)))), (mp, .inl (E.2.1, 1060, .inl (fun zz => nI (Pa zz))))] HZ := Eq.subst (motive := fun XX : Nat → Nat => va_P E.1 vwCl [(x, .inr (7, [.ref ms, .ref mp, .int (nI (pz - 1)), .ref mt, .int (nI len), .ref md, .int (nI sp), .int q1, .int q2, .int q3, .int q4, .int q5, .int (nI fm)])), (ms, .inl (E.2.1, 265, .inl (fun zz => nI (XX zz)))), (mp, .inl (E.2.1, 1060, .inl (fun zz => nI (Pa zz))))] HZ) e6 hP
    have hD : va_D AZ [(x, .inr (7, [.ref ms, .ref mp, .int (nI (pz - 1)), .ref mt, .int (nI len), .ref md, .int (nI sp), .int q1, .int q2, .int q3, .int q4, .int q5, .int (nI fm)])), (ms, .inl (E.2.1, 265, .inl (fun zz => nI ((unM M Pa (265 * (pz - 1)) 0) zz)))), (mp, .inl (E.2.1, 1060, .inl (fun zz => nI (Pa zz))))] := Eq.subst (motive := fun XX : Nat → Nat => va_D AZ [(x, .inr (7, [.ref ms, .ref mp, .int (nI (pz - 1)), .ref mt, .int (nI len), .ref md, .int (nI sp), .int q1, .int q2, .int q3, .int q4, .int q5, .int (nI fm)])), (ms, .inl (E.2.1, 265, .inl (fun zz => nI (XX zz)))), (mp, .inl (E.2.1, 1060, .inl (fun zz => nI (Pa zz))))]) e6 hD
    exact L22_2 ((265 - 0) + 1) 0 (Nat.lt_succ_self _) (by omega) _ _ hP hD hS _ (lv_sub hl [0, 1] rfl)
  · -- 4 f
    refine lv_bipush (v := (-2)) hx hb dX7_undo_7 (by decide) ?_
    exact hret _ _ _ _ _ _ hP hS dX7_undo_9 rfl (Or.inl ⟨rfl, by omega, rfl⟩)
