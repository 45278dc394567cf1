set_option maxHeartbeats 1000000 in
set_option maxRecDepth 100000 in
theorem c_X7_fades (l : Launch) (E : zE) (x ms mp mt md pz len sp fm a n d : Nat) (q1 q2 q3 q4 q5 : Int32) (M : Nat → Nat) (ha : a ≤ 1000000) (hm1 : 1 ≤ n) (hm2 : n ≤ 12) (h40 : M 4 ≤ 1000) (h50 : M 5 ≤ 100) (h60 : M 6 ≤ 1000) (hd : d ≤ 1) : zR l yX7_fades wsX7_fades ({ frames := 1, cells := 0, slots := 0, locals := 21 }) E [.ref x, .int (nI a), .int (nI n), .int (nI d)] [(x, .inr (7, [.ref ms, .ref mp, .int (nI pz), .ref mt, .int (nI len), .ref md, .int (nI sp), .int q1, .int q2, .int q3, .int q4, .int q5, .int (nI fm)])), (ms, .inl (E.2.1, 265, .inl (fun zz => nI (M zz))))] (fun r => r = nI (fade (M 4) (M 5) (M 6) n d a)) := by
  refine zR.start (own := RX7) rfl (by decide +kernel) rfl (Nat.le_of_ble_eq_true rfl) (fun _ _ => rfl) ?_
  intro pZ eZ sZ mZ argsZ belowZ methZ cZ QZ hF hret hP hG ls hl
  obtain ⟨hx, hb, hml, hown, hts⟩ := id hF
  have hl : lv_has ls 6 [(0, .ref x), (1, .int (nI a)), (2, .int (nI n)), (3, .int (nI d))] := hl
  have hwt : M 4 + M 5 * (n - 1) ≤ 2100 := by have := Nat.mul_le_mul h50 (show n - 1 ≤ 11 by omega); omega
  have hdl := da_le (a := a) h60
  refine lv_iload_n hx hb dX7_fades_0 rfl (lv_at hl 1 rfl) ?_
  refine lv_i2l hx hb dX7_fades_1 rfl ?_
  refine lv_topl (fun x1 ex1 => ?_)
  refine lv_lstore (lv' := [(4, .long x1), (0, .ref x), (1, .int (nI a)), (2, .int (nI n)), (3, .int (nI d))]) hx hb dX7_fades_2 hl (by decide) rfl (fun ls hl => ?_)
  refine lv_lload hx hb dX7_fades_4 (lv_at hl 0 rfl) ?_
  refine lv_iload_n hx hb dX7_fades_6 rfl (lv_at hl 4 rfl) ?_
  refine z_if_eq (a := d) (tgt := 26) hx hb dX7_fades_7 (by decide) (by omega) (fun c2 => ?_) (fun c2 => ?_)
  · -- 7 t
    have hdd : (if d = 0 then a else a - a * M 6 / 1000) = a := if_pos c2
    have hB : (nI a).toInt64 - (0 : Int64) = lN a := fades_0 ha
    refine lv_lconst (v := 0) hx hb dX7_fades_26 (by decide) ?_
    refine lv_lsub hx hb dX7_fades_27 ?_
    refine lv_topl (fun x3 ex3 => ?_)
    refine lv_lstore (lv' := [(4, .long x3), (0, .ref x), (1, .int (nI a)), (2, .int (nI n)), (3, .int (nI d))]) hx hb dX7_fades_28 hl (by decide) rfl (fun ls hl => ?_)
    refine lv_lload hx hb dX7_fades_30 (lv_at hl 0 rfl) ?_
    refine lv_lload hx hb dX7_fades_32 (lv_at hl 0 rfl) ?_
    refine lv_aload_n hx hb dX7_fades_34 rfl (lv_at hl 1 rfl) ?_
    refine lv_iconst (v := nI 0) hx hb dX7_fades_35 (by decide) ?_
    have hPc := zP_sub (w := [(x, .inr (7, [.ref ms, .ref mp, .int (nI pz), .ref mt, .int (nI len), .ref md, .int (nI sp), .int q1, .int q2, .int q3, .int q4, .int q5, .int (nI fm)])), (ms, .inl (E.2.1, 265, .inl (fun zz => nI (M zz))))]) hP [0, 1] rfl
    refine z_rd (fun _ h => h) (va_runV (As := [.int (nI 0)]) (rest := [.long x3, .long x3]) hF (c_X7_setting l E x ms mp mt md pz len sp fm 0 q1 q2 q3 q4 q5 M (by first | assumption | omega)) (cwV 1 hts gX7_fades_X7_setting rfl rfl rfl (by decide +kernel) ⟨Nat.le_of_ble_eq_true rfl, Nat.le_of_ble_eq_true rfl⟩) (z_preRV (va_recv hG.1 hP (ci := 7) (q0 := 0) rfl rfl) hPc hG) rfl rfl hl.1 rfl (lv_room (Nat.le_of_ble_eq_true rfl)) dX7_fades_36 ⟨Nat.zero_le _, Nat.zero_le _⟩) (fun r4 hr4 => ?_)
    subst hr4
    refine lv_aload_n hx hb dX7_fades_39 rfl (lv_at hl 1 rfl) ?_
    refine lv_iconst (v := nI 1) hx hb dX7_fades_40 (by decide) ?_
    have hPc := zP_sub (w := [(x, .inr (7, [.ref ms, .ref mp, .int (nI pz), .ref mt, .int (nI len), .ref md, .int (nI sp), .int q1, .int q2, .int q3, .int q4, .int q5, .int (nI fm)])), (ms, .inl (E.2.1, 265, .inl (fun zz => nI (M zz))))]) hP [0, 1] rfl
    refine z_rd (fun _ h => h) (va_runV (As := [.int (nI 1)]) (rest := [.int (nI (M 4)), .long x3, .long x3]) hF (c_X7_setting l E x ms mp mt md pz len sp fm 1 q1 q2 q3 q4 q5 M (by first | assumption | omega)) (cwV 1 hts gX7_fades_X7_setting rfl rfl rfl (by decide +kernel) ⟨Nat.le_of_ble_eq_true rfl, Nat.le_of_ble_eq_true rfl⟩) (z_preRV (va_recv hG.1 hP (ci := 7) (q0 := 0) rfl rfl) hPc hG) rfl rfl hl.1 rfl (lv_room (Nat.le_of_ble_eq_true rfl)) dX7_fades_41 ⟨Nat.zero_le _, Nat.zero_le _⟩) (fun r5 hr5 => ?_)
    subst hr5
    refine lv_iload_n hx hb dX7_fades_44 rfl (lv_at hl 3 rfl) ?_
    refine lv_iconst (v := nI 1) hx hb dX7_fades_45 (by decide) ?_
    refine z_isub (a := n) (b := 1) hx hb dX7_fades_46 (by omega) ?_
    refine z_imul (a := M 5) (b := n - 1) hx hb dX7_fades_47 ?_
    refine z_iadd (a := M 4) (b := (M 5) * (n - 1)) hx hb dX7_fades_48 ?_
    refine lv_i2l hx hb dX7_fades_49 rfl ?_
    refine lv_lmul hx hb dX7_fades_50 ?_
    refine lv_ldc2 (v := 1000) hx hb hown (hts (.constantLong RX7 152 1000) (by decide +kernel)) dX7_fades_51 ?_
    refine lv_ldiv hx hb dX7_fades_54 (by decide) ?_
    refine lv_lsub hx hb dX7_fades_55 ?_
    refine lv_topl (fun x6 ex6 => ?_)
    refine lv_lstore (lv' := [(4, .long x6), (0, .ref x), (1, .int (nI a)), (2, .int (nI n)), (3, .int (nI d))]) hx hb dX7_fades_56 hl (by decide) rfl (fun ls hl => ?_)
    refine lv_lload hx hb dX7_fades_58 (lv_at hl 0 rfl) ?_
    refine lv_lconst (v := 0) hx hb dX7_fades_60 (by decide) ?_
    refine W.lcmp hx hb dX7_fades_61 ?_
    refine lv_if_le (tgt := 73) hx hb dX7_fades_62 (by decide) (fun c7 => ?_) (fun c7 => ?_)
    · -- 62 t
      refine lv_iconst (v := nI 0) hx hb dX7_fades_73 (by decide) ?_
      exact hret _ _ _ dX7_fades_74 (by unfold fade; rw [hdd]; subst_vars; exact (fades_e hB (nI_l (by omega)) (by omega) (by omega)).1 (by assumption))
    · -- 62 f
      refine lv_lload hx hb dX7_fades_65 (lv_at hl 0 rfl) ?_
      refine lv_l2i hx hb dX7_fades_67 rfl ?_
      refine lv_iconst (v := nI 1) hx hb dX7_fades_68 (by decide) ?_
      refine lv_isub hx hb dX7_fades_69 ?_
      refine lv_goto (tgt := 74) hx hb dX7_fades_70 (by decide) ?_
      exact hret _ _ _ dX7_fades_74 (by unfold fade; rw [hdd]; subst_vars; exact (fades_e hB (nI_l (by omega)) (by omega) (by omega)).2 (by assumption))
  · -- 7 f
    have hdd : (if d = 0 then a else a - a * M 6 / 1000) = a - a * M 6 / 1000 := if_neg (by omega)
    have hB := fades_1 ha h60
    refine lv_lload hx hb dX7_fades_10 (lv_at hl 0 rfl) ?_
    refine lv_aload_n hx hb dX7_fades_12 rfl (lv_at hl 1 rfl) ?_
    refine lv_iconst (v := nI 2) hx hb dX7_fades_13 (by decide) ?_
    have hPc := zP_sub (w := [(x, .inr (7, [.ref ms, .ref mp, .int (nI pz), .ref mt, .int (nI len), .ref md, .int (nI sp), .int q1, .int q2, .int q3, .int q4, .int q5, .int (nI fm)])), (ms, .inl (E.2.1, 265, .inl (fun zz => nI (M zz))))]) hP [0, 1] rfl
    refine z_rd (fun _ h => h) (va_runV (As := [.int (nI 2)]) (rest := [.long x1, .long x1]) hF (c_X7_setting l E x ms mp mt md pz len sp fm 2 q1 q2 q3 q4 q5 M (by first | assumption | omega)) (cwV 1 hts gX7_fades_X7_setting rfl rfl rfl (by decide +kernel) ⟨Nat.le_of_ble_eq_true rfl, Nat.le_of_ble_eq_true rfl⟩) (z_preRV (va_recv hG.1 hP (ci := 7) (q0 := 0) rfl rfl) hPc hG) rfl rfl hl.1 rfl (lv_room (Nat.le_of_ble_eq_true rfl)) dX7_fades_14 ⟨Nat.zero_le _, Nat.zero_le _⟩) (fun r8 hr8 => ?_)
    subst hr8
    refine lv_i2l hx hb dX7_fades_17 rfl ?_
    refine lv_lmul hx hb dX7_fades_18 ?_
    refine lv_ldc2 (v := 1000) hx hb hown (hts (.constantLong RX7 152 1000) (by decide +kernel)) dX7_fades_19 ?_
    refine lv_ldiv hx hb dX7_fades_22 (by decide) ?_
    refine lv_goto (tgt := 27) hx hb dX7_fades_23 (by decide) ?_
    refine lv_lsub hx hb dX7_fades_27 ?_
    refine lv_topl (fun x9 ex9 => ?_)
    refine lv_lstore (lv' := [(4, .long x9), (0, .ref x), (1, .int (nI a)), (2, .int (nI n)), (3, .int (nI d))]) hx hb dX7_fades_28 hl (by decide) rfl (fun ls hl => ?_)
    refine lv_lload hx hb dX7_fades_30 (lv_at hl 0 rfl) ?_
    refine lv_lload hx hb dX7_fades_32 (lv_at hl 0 rfl) ?_
    refine lv_aload_n hx hb dX7_fades_34 rfl (lv_at hl 1 rfl) ?_
    refine lv_iconst (v := nI 0) hx hb dX7_fades_35 (by decide) ?_
    have hPc := zP_sub (w := [(x, .inr (7, [.ref ms, .ref mp, .int (nI pz), .ref mt, .int (nI len), .ref md, .int (nI sp), .int q1, .int q2, .int q3, .int q4, .int q5, .int (nI fm)])), (ms, .inl (E.2.1, 265, .inl (fun zz => nI (M zz))))]) hP [0, 1] rfl
    refine z_rd (fun _ h => h) (va_runV (As := [.int (nI 0)]) (rest := [.long x9, .long x9]) hF (c_X7_setting l E x ms mp mt md pz len sp fm 0 q1 q2 q3 q4 q5 M (by first | assumption | omega)) (cwV 1 hts gX7_fades_X7_setting rfl rfl rfl (by decide +kernel) ⟨Nat.le_of_ble_eq_true rfl, Nat.le_of_ble_eq_true rfl⟩) (z_preRV (va_recv hG.1 hP (ci := 7) (q0 := 0) rfl rfl) hPc hG) rfl rfl hl.1 rfl (lv_room (Nat.le_of_ble_eq_true rfl)) dX7_fades_36 ⟨Nat.zero_le _, Nat.zero_le _⟩) (fun r10 hr10 => ?_)
    subst hr10
    refine lv_aload_n hx hb dX7_fades_39 rfl (lv_at hl 1 rfl) ?_
    refine lv_iconst (v := nI 1) hx hb dX7_fades_40 (by decide) ?_
    have hPc := zP_sub (w := [(x, .inr (7, [.ref ms, .ref mp, .int (nI pz), .ref mt, .int (nI len), .ref md, .int (nI sp), .int q1, .int q2, .int q3, .int q4, .int q5, .int (nI fm)])), (ms, .inl (E.2.1, 265, .inl (fun zz => nI (M zz))))]) hP [0, 1] rfl
    refine z_rd (fun _ h => h) (va_runV (As := [.int (nI 1)]) (rest := [.int (nI (M 4)), .long x9, .long x9]) hF (c_X7_setting l E x ms mp mt md pz len sp fm 1 q1 q2 q3 q4 q5 M (by first | assumption | omega)) (cwV 1 hts gX7_fades_X7_setting rfl rfl rfl (by decide +kernel) ⟨Nat.le_of_ble_eq_true rfl, Nat.le_of_ble_eq_true rfl⟩) (z_preRV (va_recv hG.1 hP (ci := 7) (q0 := 0) rfl rfl) hPc hG) rfl rfl hl.1 rfl (lv_room (Nat.le_of_ble_eq_true rfl)) dX7_fades_41 ⟨Nat.zero_le _, Nat.zero_le _⟩) (fun r11 hr11 => ?_)
    subst hr11
    refine lv_iload_n hx hb dX7_fades_44 rfl (lv_at hl 3 rfl) ?_
    refine lv_iconst (v := nI 1) hx hb dX7_fades_45 (by decide) ?_
    refine z_isub (a := n) (b := 1) hx hb dX7_fades_46 (by omega) ?_
    refine z_imul (a := M 5) (b := n - 1) hx hb dX7_fades_47 ?_
    refine z_iadd (a := M 4) (b := (M 5) * (n - 1)) hx hb dX7_fades_48 ?_
    refine lv_i2l hx hb dX7_fades_49 rfl ?_
    refine lv_lmul hx hb dX7_fades_50 ?_
    refine lv_ldc2 (v := 1000) hx hb hown (hts (.constantLong RX7 152 1000) (by decide +kernel)) dX7_fades_51 ?_
    refine lv_ldiv hx hb dX7_fades_54 (by decide) ?_
    refine lv_lsub hx hb dX7_fades_55 ?_
    refine lv_topl (fun x12 ex12 => ?_)
    refine lv_lstore (lv' := [(4, .long x12), (0, .ref x), (1, .int (nI a)), (2, .int (nI n)), (3, .int (nI d))]) hx hb dX7_fades_56 hl (by decide) rfl (fun ls hl => ?_)
    refine lv_lload hx hb dX7_fades_58 (lv_at hl 0 rfl) ?_
    refine lv_lconst (v := 0) hx hb dX7_fades_60 (by decide) ?_
    refine W.lcmp hx hb dX7_fades_61 ?_
    refine lv_if_le (tgt := 73) hx hb dX7_fades_62 (by decide) (fun c13 => ?_) (fun c13 => ?_)
    · -- 62 t
      refine lv_iconst (v := nI 0) hx hb dX7_fades_73 (by decide) ?_
      exact hret _ _ _ dX7_fades_74 (by unfold fade; rw [hdd]; subst_vars; exact (fades_e hB (nI_l (by omega)) (by omega) (by omega)).1 (by assumption))
    · -- 62 f
      refine lv_lload hx hb dX7_fades_65 (lv_at hl 0 rfl) ?_
      refine lv_l2i hx hb dX7_fades_67 rfl ?_
      refine lv_iconst (v := nI 1) hx hb dX7_fades_68 (by decide) ?_
      refine lv_isub hx hb dX7_fades_69 ?_
      refine lv_goto (tgt := 74) hx hb dX7_fades_70 (by decide) ?_
      exact hret _ _ _ dX7_fades_74 (by unfold fade; rw [hdd]; subst_vars; exact (fades_e hB (nI_l (by omega)) (by omega) (by omega)).2 (by assumption))
theorem iwX7_goesOn_X7_c_X7_goesOn : ∀ w ∈ wsX70, w ∈ wsX7_goesOn := by decide +kernel
set_option maxHeartbeats 1000000 in
set_option maxRecDepth 100000 in
theorem c_X7_goesOn (l : Launch) (E : zE) (x ms mp mt md pz len sp fm kk : Nat) (q1 q2 q3 q4 q5 : Int32) (M : Nat → Nat) (hn : M 0 ≤ 12) (hPb : ∀ i, i < 12 → mP M i ≤ 2400) (hHb : ∀ i, i < 12 → mH M i ≤ 2000) (hprn : ∀ i, i < 4 → mPr M i ≤ M 0) (hfi : ∀ i, i < 4 → mFi M i ≤ 2519) (ham : ∀ i, i < 48 → mAm M i ≤ 1000000) (h40 : M 4 ≤ 1000) (h50 : M 5 ≤ 100) (h60 : M 6 ≤ 1000) (hk : kk ≤ 500) : zV l yX7_goesOn wsX7_goesOn ({ frames := 8, cells := 0, slots := 0, locals := 180 }) E [.ref x, .int (nI kk)] [(x, .inr (7, [.ref ms, .ref mp, .int (nI pz), .ref mt, .int (nI len), .ref md, .int (nI sp), .int q1, .int q2, .int q3, .int q4, .int q5, .int (nI fm)])), (ms, .inl (E.2.1, 265, .inl (fun zz => nI (M zz))))] (fun w' => w' = [(x, .inr (7, [.ref ms, .ref mp, .int (nI pz), .ref mt, .int (nI len), .ref md, .int (nI sp), .int q1, .int q2, .int q3, .int q4, .int q5, .int (nI fm)])), (ms, .inl (E.2.1, 265, .inl (fun zz => nI ((va_up (gnL M kk 48) 1 (M 1 + kk)) zz))))]) := by
  refine zV.start (own := RX7) rfl (by decide +kernel) rfl (Nat.le_of_ble_eq_true rfl) ?_
  intro pZ eZ sZ mZ argsZ belowZ methZ cZ QZ AZ hF hret HZ locsZ hP hD hS hG ls hl
  obtain ⟨hx, hb, hml, hown, hts⟩ := id hF
  have hl : lv_has ls 7 [(0, .ref x), (1, .int (nI kk))] := hl
  refine lv_iconst (v := nI 0) hx hb dX7_goesOn_0 (by decide) ?_
  refine lv_istore_n (lv' := [(2, .int (nI 0)), (0, .ref x), (1, .int (nI kk))]) hx hb dX7_goesOn_1 rfl hl (by decide) rfl (fun ls hl => ?_)
  have L2_1 : ∀ (fuelZ : Nat) (s : Nat), 4 - s < fuelZ → (s ≤ 4) → ∀ (HZ : Heap) (locsZ : List Loc), va_P E.1 vwCl [(x, .inr (7, [.ref ms, .ref mp, .int (nI pz), .ref mt, .int (nI len), .ref md, .int (nI sp), .int q1, .int q2, .int q3, .int q4, .int q5, .int (nI fm)])), (ms, .inl (E.2.1, 265, .inl (fun zz => nI ((gnL M kk (12 * s)) zz))))] HZ → va_D AZ [(x, .inr (7, [.ref ms, .ref mp, .int (nI pz), .ref mt, .int (nI len), .ref md, .int (nI sp), .int q1, .int q2, .int q3, .int q4, .int q5, .int (nI fm)])), (ms, .inl (E.2.1, 265, .inl (fun zz => nI ((gnL M kk (12 * s)) zz))))] → va_S AZ sZ.heap HZ locsZ → ∀ ls : Array Slot, lv_has ls 7 [(2, .int (nI s)), (0, .ref x), (1, .int (nI kk))] → W pZ l eZ ({ frames := 8, cells := 0, slots := 0, locals := 180 }) sZ mZ argsZ belowZ methZ cZ HZ locsZ 0 0 QZ (F0 mZ 2 ls []) := by
    intro fuelZ
    induction fuelZ with
    | zero => intro s hm; exact absurd hm (Nat.not_lt_zero _)
    | succ fuelZ ih2 =>
      intro s hm j0 HZ locsZ hP hD hS ls hl
      refine lv_iload_n hx hb dX7_goesOn_2 rfl (lv_at hl 0 rfl) ?_
      refine lv_iconst (v := nI 4) hx hb dX7_goesOn_3 (by decide) ?_
      refine z_icmp_ge (a := s) (b := 4) (tgt := 92) hx hb dX7_goesOn_4 (by decide) (by omega) (by omega) (fun c2 => ?_) (fun c2 => ?_)
      · -- 4 t
        refine lv_aload_n hx hb dX7_goesOn_92 rfl (lv_at hl 1 rfl) ?_
        refine va_get (D := E.1) (ci := 7) (v := .ref ms) (C := RX7) (T := TX7) (N := 13) hx hb hts iwX7_goesOn_X7_c_X7_goesOn hown hG.1 hP 0 rfl rfl 0 (by decide) (hts (.fieldLink RX7 7 "FrettedStringsModel" "st" "[I") (by decide +kernel)) (fun _ h9 => h9) rfl dX7_goesOn_93 ?_
        refine lv_iconst (v := nI 1) hx hb dX7_goesOn_96 (by decide) ?_
        refine lv_dup2_11 hx hb dX7_goesOn_97 rfl rfl ?_
        refine z_iald (j := 1) (v := M 1) hx hb hG hP 1 rfl (by omega) (by decide) (gnL_lo _ _ _ _ (by omega)) dX7_goesOn_98 ?_
        refine lv_iload_n hx hb dX7_goesOn_99 rfl (lv_at hl 2 rfl) ?_
        refine z_iadd (a := M 1) (b := kk) hx hb dX7_goesOn_100 ?_
        refine z_iast (j := 1) (v := (M 1) + kk) (g := va_up (gnL M kk (12 * s)) 1 ((M 1) + kk)) hx hb hG hP hD hS 1 rfl (by omega) (by decide) (rfl) dX7_goesOn_101 (fun HZ locsZ hP hD hS => ?_)
        have hP : va_P E.1 vwCl [(x, .inr (7, [.ref ms, .ref mp, .int (nI pz), .ref mt, .int (nI len), .ref md, .int (nI sp), .int q1, .int q2, .int q3, .int q4, .int q5, .int (nI fm)])), (ms, .inl (E.2.1, 265, .inl (fun zz => nI ((va_up (gnL M kk (12 * s)) 1 ((M 1) + kk)) zz))))] _ := hP
        have hD : va_D AZ [(x, .inr (7, [.ref ms, .ref mp, .int (nI pz), .ref mt, .int (nI len), .ref md, .int (nI sp), .int q1, .int q2, .int q3, .int q4, .int q5, .int (nI fm)])), (ms, .inl (E.2.1, 265, .inl (fun zz => nI ((va_up (gnL M kk (12 * s)) 1 ((M 1) + kk)) zz))))] := hD
        have e3 : (va_up (gnL M kk (12 * s)) 1 ((M 1) + kk) : Nat → Nat) = va_up (gnL M kk 48) 1 (M 1 + kk) := by first | rfl | (rw [show 12 * s = 48 by omega])
        have hP : va_P E.1 vwCl [(x, .inr (7, [.ref ms, .ref mp, .int (nI pz), .ref mt, .int (nI len), .ref md, .int (nI sp), .int q1, .int q2, .int q3, .int q4, .int q5, .int (nI fm)])), (ms, .inl (E.2.1, 265, .inl (fun zz => nI ((va_up (gnL M kk 48) 1 (M 1 + kk)) zz))))] HZ := Eq.subst (motive := fun XX : Nat → Nat => va_P E.1 vwCl [(x, .inr (7, [.ref ms, .ref mp, .int (nI pz), .ref mt, .int (nI len), .ref md, .int (nI sp), .int q1, .int q2, .int q3, .int q4, .int q5, .int (nI fm)])), (ms, .inl (E.2.1, 265, .inl (fun zz => nI (XX zz))))] HZ) e3 hP
        have hD : va_D AZ [(x, .inr (7, [.ref ms, .ref mp, .int (nI pz), .ref mt, .int (nI len), .ref md, .int (nI sp), .int q1, .int q2, .int q3, .int q4, .int q5, .int (nI fm)])), (ms, .inl (E.2.1, 265, .inl (fun zz => nI ((va_up (gnL M kk 48) 1 (M 1 + kk)) zz))))] := Eq.subst (motive := fun XX : Nat → Nat => va_D AZ [(x, .inr (7, [.ref ms, .ref mp, .int (nI pz), .ref mt, .int (nI len), .ref md, .int (nI sp), .int q1, .int q2, .int q3, .int q4, .int q5, .int (nI fm)])), (ms, .inl (E.2.1, 265, .inl (fun zz => nI (XX zz))))]) e3 hD
        exact hret _ _ _ _ _ hP hS dX7_goesOn_102 rfl rfl
      · -- 4 f
        refine lv_iconst (v := nI 1) hx hb dX7_goesOn_7 (by decide) ?_
        refine lv_istore_n (lv' := [(3, .int (nI 1)), (2, .int (nI s)), (0, .ref x), (1, .int (nI kk))]) hx hb dX7_goesOn_8 rfl hl (by decide) rfl (fun ls hl => ?_)
        have L9_4 : ∀ (fuelZ : Nat) (g : Nat), 13 - g < fuelZ → (1 ≤ g) → (g ≤ 13) → ∀ (HZ : Heap) (locsZ : List Loc), va_P E.1 vwCl [(x, .inr (7, [.ref ms, .ref mp, .int (nI pz), .ref mt, .int (nI len), .ref md, .int (nI sp), .int q1, .int q2, .int q3, .int q4, .int q5, .int (nI fm)])), (ms, .inl (E.2.1, 265, .inl (fun zz => nI ((gnL M kk (12 * s + (g - 1))) zz))))] HZ → va_D AZ [(x, .inr (7, [.ref ms, .ref mp, .int (nI pz), .ref mt, .int (nI len), .ref md, .int (nI sp), .int q1, .int q2, .int q3, .int q4, .int q5, .int (nI fm)])), (ms, .inl (E.2.1, 265, .inl (fun zz => nI ((gnL M kk (12 * s + (g - 1))) zz))))] → va_S AZ sZ.heap HZ locsZ → ∀ ls : Array Slot, lv_has ls 7 [(3, .int (nI g)), (2, .int (nI s)), (0, .ref x), (1, .int (nI kk))] → W pZ l eZ ({ frames := 8, cells := 0, slots := 0, locals := 180 }) sZ mZ argsZ belowZ methZ cZ HZ locsZ 0 0 QZ (F0 mZ 9 ls []) := by
          intro fuelZ
          induction fuelZ with
          | zero => intro g hm; exact absurd hm (Nat.not_lt_zero _)
          | succ fuelZ ih9 =>
            intro g hm i0 i1 HZ locsZ hP hD hS ls hl
            refine lv_iload_n hx hb dX7_goesOn_9 rfl (lv_at hl 0 rfl) ?_
            refine lv_bipush (v := nI 12) hx hb dX7_goesOn_10 (by decide) ?_
            refine z_icmp_gt (a := g) (b := 12) (tgt := 86) hx hb dX7_goesOn_12 (by decide) (by omega) (by omega) (fun c5 => ?_) (fun c5 => ?_)
            · -- 12 t
              refine z_iinc (k := 1) (d := 1) (lv' := [(2, .int (nI (s + 1))), (3, .int (nI g)), (0, .ref x), (1, .int (nI kk))]) hx hb dX7_goesOn_86 (by decide) hl rfl (by decide) rfl (fun ls hl => ?_)
              refine lv_goto (tgt := 2) hx hb dX7_goesOn_89 (by decide) ?_
              have e6 : (gnL M kk (12 * s + (g - 1)) : Nat → Nat) = gnL M kk (12 * (s + 1)) := by first | rfl | (rw [show 12 * s + (g - 1) = 12 * (s + 1) by omega])
              have hP : va_P E.1 vwCl [(x, .inr (7, [.ref ms, .ref mp, .int (nI pz), .ref mt, .int (nI len), .ref md, .int (nI sp), .int q1, .int q2, .int q3, .int q4, .int q5, .int (nI fm)])), (ms, .inl (E.2.1, 265, .inl (fun zz => nI ((gnL M kk (12 * (s + 1))) zz))))] HZ := Eq.subst (motive := fun XX : Nat → Nat => va_P E.1 vwCl [(x, .inr (7, [.ref ms, .ref mp, .int (nI pz), .ref mt, .int (nI len), .ref md, .int (nI sp), .int q1, .int q2, .int q3, .int q4, .int q5, .int (nI fm)])), (ms, .inl (E.2.1, 265, .inl (fun zz => nI (XX zz))))] HZ) e6 hP
              have hD : va_D AZ [(x, .inr (7, [.ref ms, .ref mp, .int (nI pz), .ref mt, .int (nI len), .ref md, .int (nI sp), .int q1, .int q2, .int q3, .int q4, .int q5, .int (nI fm)])), (ms, .inl (E.2.1, 265, .inl (fun zz => nI ((gnL M kk (12 * (s + 1))) zz))))] := Eq.subst (motive := fun XX : Nat → Nat => va_D AZ [(x, .inr (7, [.ref ms, .ref mp, .int (nI pz), .ref mt, .int (nI len), .ref md, .int (nI sp), .int q1, .int q2, .int q3, .int q4, .int q5, .int (nI fm)])), (ms, .inl (E.2.1, 265, .inl (fun zz => nI (XX zz))))]) e6 hD
              exact ih2 (s + 1) (by omega) (by omega) _ _ hP hD hS _ (lv_sub hl [0, 2, 3] rfl)
            · -- 12 f
              have hgs := gn_sk (k := kk) (c := 12 * s + (g - 1)) hn hPb hHb hprn hfi
              have hml := mdm_lo (k := kk) (c := 12 * s + (g - 1)) (n := g) (show s < 4 by omega) hn hprn
              refine lv_aload_n hx hb dX7_goesOn_15 rfl (lv_at hl 2 rfl) ?_
              refine lv_iload_n hx hb dX7_goesOn_16 rfl (lv_at hl 1 rfl) ?_
              refine lv_iload_n hx hb dX7_goesOn_17 rfl (lv_at hl 0 rfl) ?_
              have hPc := zP_sub (w := [(x, .inr (7, [.ref ms, .ref mp, .int (nI pz), .ref mt, .int (nI len), .ref md, .int (nI sp), .int q1, .int q2, .int q3, .int q4, .int q5, .int (nI fm)])), (ms, .inl (E.2.1, 265, .inl (fun zz => nI ((gnL M kk (12 * s + (g - 1))) zz))))]) hP [0, 1] rfl
              refine z_rd (fun _ h => h) (va_runV (As := [.int (nI s), .int (nI g)]) (rest := []) hF (c_X7_isDamped l E x ms mp mt md pz len sp fm s g q1 q2 q3 q4 q5 (gnL M kk (12 * s + (g - 1))) (hgs.1) (hgs.2.1) (hgs.2.2.1) (hgs.2.2.2.1) (by first | assumption | omega) (by first | assumption | omega) (by first | assumption | omega) (hgs.2.2.2.2)) (cwV 2 hts gX7_goesOn_X7_isDamped rfl rfl rfl (by decide +kernel) ⟨Nat.le_of_ble_eq_true rfl, Nat.le_of_ble_eq_true rfl⟩) (z_preRV (va_recv hG.1 hP (ci := 7) (q0 := 0) rfl rfl) hPc hG) rfl rfl hl.1 rfl (lv_room (Nat.le_of_ble_eq_true rfl)) dX7_goesOn_18 ⟨Nat.zero_le _, Nat.zero_le _⟩) (fun r7 hr7 => ?_)
              rcases hr7 with ⟨rfl, c8⟩ | ⟨rfl, c8⟩
              · -- 18 t
                rw [hml.1, hml.2] at c8
                have hdm : mdm M s g = 1 := if_pos c8
                refine lv_istore (lv' := [(4, .int (nI 1)), (3, .int (nI g)), (2, .int (nI s)), (0, .ref x), (1, .int (nI kk))]) hx hb dX7_goesOn_21 hl (by decide) rfl (fun ls hl => ?_)
                refine lv_aload_n hx hb dX7_goesOn_23 rfl (lv_at hl 3 rfl) ?_
                refine lv_iload_n hx hb dX7_goesOn_24 rfl (lv_at hl 2 rfl) ?_
                refine lv_iload_n hx hb dX7_goesOn_25 rfl (lv_at hl 1 rfl) ?_
                have hPc := zP_sub (w := [(x, .inr (7, [.ref ms, .ref mp, .int (nI pz), .ref mt, .int (nI len), .ref md, .int (nI sp), .int q1, .int q2, .int q3, .int q4, .int q5, .int (nI fm)])), (ms, .inl (E.2.1, 265, .inl (fun zz => nI ((gnL M kk (12 * s + (g - 1))) zz))))]) hP [0, 1] rfl
                refine z_rd (fun _ h => h) (va_runV (As := [.int (nI s), .int (nI g)]) (rest := []) hF (c_X7_loud l E x ms mp mt md pz len sp fm s g q1 q2 q3 q4 q5 (gnL M kk (12 * s + (g - 1))) (by first | assumption | omega) (by first | assumption | omega) (by first | assumption | omega)) (cwV 2 hts gX7_goesOn_X7_loud rfl rfl rfl (by decide +kernel) ⟨Nat.le_of_ble_eq_true rfl, Nat.le_of_ble_eq_true rfl⟩) (z_preRV (va_recv hG.1 hP (ci := 7) (q0 := 0) rfl rfl) hPc hG) rfl rfl hl.1 rfl (lv_room (Nat.le_of_ble_eq_true rfl)) dX7_goesOn_26 ⟨Nat.zero_le _, Nat.zero_le _⟩) (fun r9 hr9 => ?_)
                subst hr9
                have e10 : (gnL M kk (12 * s + (g - 1))) (61 + 12 * s + g - 1) = M (61 + 12 * s + g - 1) := by exact gnL_at i0
                rw [e10]
                refine lv_istore (lv' := [(5, .int (nI (M (61 + 12 * s + g - 1)))), (4, .int (nI 1)), (3, .int (nI g)), (2, .int (nI s)), (0, .ref x), (1, .int (nI kk))]) hx hb dX7_goesOn_29 hl (by decide) rfl (fun ls hl => ?_)
                refine lv_iconst (v := nI 0) hx hb dX7_goesOn_31 (by decide) ?_
                refine lv_istore (lv' := [(6, .int (nI 0)), (5, .int (nI (M (61 + 12 * s + g - 1)))), (4, .int (nI 1)), (3, .int (nI g)), (2, .int (nI s)), (0, .ref x), (1, .int (nI kk))]) hx hb dX7_goesOn_32 hl (by decide) rfl (fun ls hl => ?_)
                have L34_11 : ∀ (fuelZ : Nat) (tt : Nat) (av : Nat), kk - tt < fuelZ → (tt ≤ kk) → (av = fadeN (M 4) (M 5) (M 6) g (mdm M s g) tt (M (61 + 12 * s + g - 1))) → (av ≤ 1000000) → ∀ (HZ : Heap) (locsZ : List Loc), va_P E.1 vwCl [(x, .inr (7, [.ref ms, .ref mp, .int (nI pz), .ref mt, .int (nI len), .ref md, .int (nI sp), .int q1, .int q2, .int q3, .int q4, .int q5, .int (nI fm)])), (ms, .inl (E.2.1, 265, .inl (fun zz => nI ((gnL M kk (12 * s + (g - 1))) zz))))] HZ → va_D AZ [(x, .inr (7, [.ref ms, .ref mp, .int (nI pz), .ref mt, .int (nI len), .ref md, .int (nI sp), .int q1, .int q2, .int q3, .int q4, .int q5, .int (nI fm)])), (ms, .inl (E.2.1, 265, .inl (fun zz => nI ((gnL M kk (12 * s + (g - 1))) zz))))] → va_S AZ sZ.heap HZ locsZ → ∀ ls : Array Slot, lv_has ls 7 [(6, .int (nI tt)), (5, .int (nI av)), (4, .int (nI 1)), (3, .int (nI g)), (2, .int (nI s)), (0, .ref x), (1, .int (nI kk))] → W pZ l eZ ({ frames := 8, cells := 0, slots := 0, locals := 180 }) sZ mZ argsZ belowZ methZ cZ HZ locsZ 0 0 QZ (F0 mZ 34 ls []) := by
                  intro fuelZ
                  induction fuelZ with
                  | zero => intro tt av hm; exact absurd hm (Nat.not_lt_zero _)
                  | succ fuelZ ih34 =>
                    intro tt av hm u0 u1 u2 HZ locsZ hP hD hS ls hl
                    refine lv_iload hx hb dX7_goesOn_34 (lv_at hl 0 rfl) ?_
                    refine lv_iload_n hx hb dX7_goesOn_36 rfl (lv_at hl 6 rfl) ?_
                    refine z_icmp_ge (a := tt) (b := kk) (tgt := 62) hx hb dX7_goesOn_37 (by decide) (by omega) (by omega) (fun c12 => ?_) (fun c12 => ?_)
                    · -- 37 t
                      have hfin : av = fadeN (M 4) (M 5) (M 6) g (mdm M s g) kk (M (61 + 12 * s + g - 1)) := by first | (rw [u1]; congr 1; omega) | (rw [fadeN_z (by rw [← u1]; assumption) kk u0]; assumption)
                      refine lv_aload_n hx hb dX7_goesOn_62 rfl (lv_at hl 5 rfl) ?_
                      refine va_get (D := E.1) (ci := 7) (v := .ref ms) (C := RX7) (T := TX7) (N := 13) hx hb hts iwX7_goesOn_X7_c_X7_goesOn hown hG.1 hP 0 rfl rfl 0 (by decide) (hts (.fieldLink RX7 7 "FrettedStringsModel" "st" "[I") (by decide +kernel)) (fun _ h9 => h9) rfl dX7_goesOn_63 ?_
                      refine lv_bipush (v := nI 61) hx hb dX7_goesOn_66 (by decide) ?_
                      refine lv_bipush (v := nI 12) hx hb dX7_goesOn_68 (by decide) ?_
                      refine lv_iload_n hx hb dX7_goesOn_70 rfl (lv_at hl 4 rfl) ?_
                      refine z_imul (a := 12) (b := s) hx hb dX7_goesOn_71 ?_
                      refine z_iadd (a := 61) (b := 12 * s) hx hb dX7_goesOn_72 ?_
                      refine lv_iload_n hx hb dX7_goesOn_73 rfl (lv_at hl 3 rfl) ?_
                      refine z_iadd (a := 61 + (12 * s)) (b := g) hx hb dX7_goesOn_74 ?_
                      refine lv_iconst (v := nI 1) hx hb dX7_goesOn_75 (by decide) ?_
                      refine z_isub (a := (61 + (12 * s)) + g) (b := 1) hx hb dX7_goesOn_76 (by omega) ?_
                      refine lv_iload hx hb dX7_goesOn_77 (lv_at hl 1 rfl) ?_
                      refine z_iast (j := ((61 + (12 * s)) + g) - 1) (v := av) (g := va_up (gnL M kk (12 * s + (g - 1))) (((61 + (12 * s)) + g) - 1) av) hx hb hG hP hD hS 1 rfl (by omega) (by decide) (rfl) dX7_goesOn_79 (fun HZ locsZ hP hD hS => ?_)
                      have hP : va_P E.1 vwCl [(x, .inr (7, [.ref ms, .ref mp, .int (nI pz), .ref mt, .int (nI len), .ref md, .int (nI sp), .int q1, .int q2, .int q3, .int q4, .int q5, .int (nI fm)])), (ms, .inl (E.2.1, 265, .inl (fun zz => nI ((va_up (gnL M kk (12 * s + (g - 1))) (((61 + (12 * s)) + g) - 1) av) zz))))] _ := hP
                      have hD : va_D AZ [(x, .inr (7, [.ref ms, .ref mp, .int (nI pz), .ref mt, .int (nI len), .ref md, .int (nI sp), .int q1, .int q2, .int q3, .int q4, .int q5, .int (nI fm)])), (ms, .inl (E.2.1, 265, .inl (fun zz => nI ((va_up (gnL M kk (12 * s + (g - 1))) (((61 + (12 * s)) + g) - 1) av) zz))))] := hD
                      refine z_iinc (k := 3) (d := 1) (lv' := [(3, .int (nI (g + 1))), (6, .int (nI tt)), (5, .int (nI av)), (4, .int (nI 1)), (2, .int (nI s)), (0, .ref x), (1, .int (nI kk))]) hx hb dX7_goesOn_80 (by decide) hl rfl (by decide) rfl (fun ls hl => ?_)
                      refine lv_goto (tgt := 9) hx hb dX7_goesOn_83 (by decide) ?_
                      have e13 : (va_up (gnL M kk (12 * s + (g - 1))) (((61 + (12 * s)) + g) - 1) av : Nat → Nat) = gnL M kk (12 * s + ((g + 1) - 1)) := by first | rfl | (exact gnL_s i0 (by omega) hfin)
                      have hP : va_P E.1 vwCl [(x, .inr (7, [.ref ms, .ref mp, .int (nI pz), .ref mt, .int (nI len), .ref md, .int (nI sp), .int q1, .int q2, .int q3, .int q4, .int q5, .int (nI fm)])), (ms, .inl (E.2.1, 265, .inl (fun zz => nI ((gnL M kk (12 * s + ((g + 1) - 1))) zz))))] HZ := Eq.subst (motive := fun XX : Nat → Nat => va_P E.1 vwCl [(x, .inr (7, [.ref ms, .ref mp, .int (nI pz), .ref mt, .int (nI len), .ref md, .int (nI sp), .int q1, .int q2, .int q3, .int q4, .int q5, .int (nI fm)])), (ms, .inl (E.2.1, 265, .inl (fun zz => nI (XX zz))))] HZ) e13 hP
                      have hD : va_D AZ [(x, .inr (7, [.ref ms, .ref mp, .int (nI pz), .ref mt, .int (nI len), .ref md, .int (nI sp), .int q1, .int q2, .int q3, .int q4, .int q5, .int (nI fm)])), (ms, .inl (E.2.1, 265, .inl (fun zz => nI ((gnL M kk (12 * s + ((g + 1) - 1))) zz))))] := Eq.subst (motive := fun XX : Nat → Nat => va_D AZ [(x, .inr (7, [.ref ms, .ref mp, .int (nI pz), .ref mt, .int (nI len), .ref md, .int (nI sp), .int q1, .int q2, .int q3, .int q4, .int q5, .int (nI fm)])), (ms, .inl (E.2.1, 265, .inl (fun zz => nI (XX zz))))]) e13 hD
                      exact ih9 (g + 1) (by omega) (by omega) (by omega) _ _ hP hD hS _ (lv_sub hl [0, 4, 5, 6] rfl)
                    · -- 37 f
                      refine lv_iload hx hb dX7_goesOn_40 (lv_at hl 1 rfl) ?_
                      refine z_if_le (a := av) (tgt := 62) hx hb dX7_goesOn_42 (by decide) (by omega) (fun c14 => ?_) (fun c14 => ?_)
                      · -- 42 t
                        have hfin : av = fadeN (M 4) (M 5) (M 6) g (mdm M s g) kk (M (61 + 12 * s + g - 1)) := by first | (rw [u1]; congr 1; omega) | (rw [fadeN_z (by rw [← u1]; assumption) kk u0]; assumption)
                        refine lv_aload_n hx hb dX7_goesOn_62 rfl (lv_at hl 5 rfl) ?_
                        refine va_get (D := E.1) (ci := 7) (v := .ref ms) (C := RX7) (T := TX7) (N := 13) hx hb hts iwX7_goesOn_X7_c_X7_goesOn hown hG.1 hP 0 rfl rfl 0 (by decide) (hts (.fieldLink RX7 7 "FrettedStringsModel" "st" "[I") (by decide +kernel)) (fun _ h9 => h9) rfl dX7_goesOn_63 ?_
                        refine lv_bipush (v := nI 61) hx hb dX7_goesOn_66 (by decide) ?_
                        refine lv_bipush (v := nI 12) hx hb dX7_goesOn_68 (by decide) ?_
                        refine lv_iload_n hx hb dX7_goesOn_70 rfl (lv_at hl 4 rfl) ?_
                        refine z_imul (a := 12) (b := s) hx hb dX7_goesOn_71 ?_
                        refine z_iadd (a := 61) (b := 12 * s) hx hb dX7_goesOn_72 ?_
                        refine lv_iload_n hx hb dX7_goesOn_73 rfl (lv_at hl 3 rfl) ?_
                        refine z_iadd (a := 61 + (12 * s)) (b := g) hx hb dX7_goesOn_74 ?_
                        refine lv_iconst (v := nI 1) hx hb dX7_goesOn_75 (by decide) ?_
                        refine z_isub (a := (61 + (12 * s)) + g) (b := 1) hx hb dX7_goesOn_76 (by omega) ?_
                        refine lv_iload hx hb dX7_goesOn_77 (lv_at hl 1 rfl) ?_
                        refine z_iast (j := ((61 + (12 * s)) + g) - 1) (v := av) (g := va_up (gnL M kk (12 * s + (g - 1))) (((61 + (12 * s)) + g) - 1) av) hx hb hG hP hD hS 1 rfl (by omega) (by decide) (rfl) dX7_goesOn_79 (fun HZ locsZ hP hD hS => ?_)
                        have hP : va_P E.1 vwCl [(x, .inr (7, [.ref ms, .ref mp, .int (nI pz), .ref mt, .int (nI len), .ref md, .int (nI sp), .int q1, .int q2, .int q3, .int q4, .int q5, .int (nI fm)])), (ms, .inl (E.2.1, 265, .inl (fun zz => nI ((va_up (gnL M kk (12 * s + (g - 1))) (((61 + (12 * s)) + g) - 1) av) zz))))] _ := hP
                        have hD : va_D AZ [(x, .inr (7, [.ref ms, .ref mp, .int (nI pz), .ref mt, .int (nI len), .ref md, .int (nI sp), .int q1, .int q2, .int q3, .int q4, .int q5, .int (nI fm)])), (ms, .inl (E.2.1, 265, .inl (fun zz => nI ((va_up (gnL M kk (12 * s + (g - 1))) (((61 + (12 * s)) + g) - 1) av) zz))))] := hD
                        refine z_iinc (k := 3) (d := 1) (lv' := [(3, .int (nI (g + 1))), (6, .int (nI tt)), (5, .int (nI av)), (4, .int (nI 1)), (2, .int (nI s)), (0, .ref x), (1, .int (nI kk))]) hx hb dX7_goesOn_80 (by decide) hl rfl (by decide) rfl (fun ls hl => ?_)
                        refine lv_goto (tgt := 9) hx hb dX7_goesOn_83 (by decide) ?_
                        have e15 : (va_up (gnL M kk (12 * s + (g - 1))) (((61 + (12 * s)) + g) - 1) av : Nat → Nat) = gnL M kk (12 * s + ((g + 1) - 1)) := by first | rfl | (exact gnL_s i0 (by omega) hfin)
                        have hP : va_P E.1 vwCl [(x, .inr (7, [.ref ms, .ref mp, .int (nI pz), .ref mt, .int (nI len), .ref md, .int (nI sp), .int q1, .int q2, .int q3, .int q4, .int q5, .int (nI fm)])), (ms, .inl (E.2.1, 265, .inl (fun zz => nI ((gnL M kk (12 * s + ((g + 1) - 1))) zz))))] HZ := Eq.subst (motive := fun XX : Nat → Nat => va_P E.1 vwCl [(x, .inr (7, [.ref ms, .ref mp, .int (nI pz), .ref mt, .int (nI len), .ref md, .int (nI sp), .int q1, .int q2, .int q3, .int q4, .int q5, .int (nI fm)])), (ms, .inl (E.2.1, 265, .inl (fun zz => nI (XX zz))))] HZ) e15 hP
                        have hD : va_D AZ [(x, .inr (7, [.ref ms, .ref mp, .int (nI pz), .ref mt, .int (nI len), .ref md, .int (nI sp), .int q1, .int q2, .int q3, .int q4, .int q5, .int (nI fm)])), (ms, .inl (E.2.1, 265, .inl (fun zz => nI ((gnL M kk (12 * s + ((g + 1) - 1))) zz))))] := Eq.subst (motive := fun XX : Nat → Nat => va_D AZ [(x, .inr (7, [.ref ms, .ref mp, .int (nI pz), .ref mt, .int (nI len), .ref md, .int (nI sp), .int q1, .int q2, .int q3, .int q4, .int q5, .int (nI fm)])), (ms, .inl (E.2.1, 265, .inl (fun zz => nI (XX zz))))]) e15 hD
                        exact ih9 (g + 1) (by omega) (by omega) (by omega) _ _ hP hD hS _ (lv_sub hl [0, 4, 5, 6] rfl)
                      · -- 42 f
                        refine lv_aload_n hx hb dX7_goesOn_45 rfl (lv_at hl 5 rfl) ?_
                        refine lv_iload hx hb dX7_goesOn_46 (lv_at hl 1 rfl) ?_
                        refine lv_iload_n hx hb dX7_goesOn_48 rfl (lv_at hl 3 rfl) ?_
                        refine lv_iload hx hb dX7_goesOn_49 (lv_at hl 2 rfl) ?_
                        have hPc := zP_sub (w := [(x, .inr (7, [.ref ms, .ref mp, .int (nI pz), .ref mt, .int (nI len), .ref md, .int (nI sp), .int q1, .int q2, .int q3, .int q4, .int q5, .int (nI fm)])), (ms, .inl (E.2.1, 265, .inl (fun zz => nI ((gnL M kk (12 * s + (g - 1))) zz))))]) hP [0, 1] rfl
                        refine z_rd (fun _ h => h) (va_runV (As := [.int (nI av), .int (nI g), .int (nI 1)]) (rest := []) hF (c_X7_fades l E x ms mp mt md pz len sp fm av g 1 q1 q2 q3 q4 q5 (gnL M kk (12 * s + (g - 1))) (by first | assumption | omega) (by first | assumption | omega) (by first | assumption | omega) (by rw [gnL_lo _ _ _ _ (by omega)]; exact h40) (by rw [gnL_lo _ _ _ _ (by omega)]; exact h50) (by rw [gnL_lo _ _ _ _ (by omega)]; exact h60) (by first | assumption | omega)) (cwV 3 hts gX7_goesOn_X7_fades rfl rfl rfl (by decide +kernel) ⟨Nat.le_of_ble_eq_true rfl, Nat.le_of_ble_eq_true rfl⟩) (z_preRV (va_recv hG.1 hP (ci := 7) (q0 := 0) rfl rfl) hPc hG) rfl rfl hl.1 rfl (lv_room (Nat.le_of_ble_eq_true rfl)) dX7_goesOn_51 ⟨Nat.zero_le _, Nat.zero_le _⟩) (fun r16 hr16 => ?_)
                        subst hr16
                        have e17 : fade ((gnL M kk (12 * s + (g - 1))) 4) ((gnL M kk (12 * s + (g - 1))) 5) ((gnL M kk (12 * s + (g - 1))) 6) g 1 av = fade (M 4) (M 5) (M 6) g 1 av := by rw [gnL_lo _ _ _ _ (by omega), gnL_lo _ _ _ _ (by omega), gnL_lo _ _ _ _ (by omega)]
                        rw [e17]
                        refine lv_istore (lv' := [(5, .int (nI (fade (M 4) (M 5) (M 6) g 1 av))), (6, .int (nI tt)), (4, .int (nI 1)), (3, .int (nI g)), (2, .int (nI s)), (0, .ref x), (1, .int (nI kk))]) hx hb dX7_goesOn_54 hl (by decide) rfl (fun ls hl => ?_)
                        refine z_iinc (k := 1) (d := 1) (lv' := [(6, .int (nI (tt + 1))), (5, .int (nI (fade (M 4) (M 5) (M 6) g 1 av))), (4, .int (nI 1)), (3, .int (nI g)), (2, .int (nI s)), (0, .ref x), (1, .int (nI kk))]) hx hb dX7_goesOn_56 (by decide) hl rfl (by decide) rfl (fun ls hl => ?_)
                        refine lv_goto (tgt := 34) hx hb dX7_goesOn_59 (by decide) ?_
                        exact ih34 (tt + 1) (fade (M 4) (M 5) (M 6) g 1 av) (by omega) (by omega) (by rw [u1, hdm]; rfl) (Nat.le_trans fade_le u2) _ _ hP hD hS _ (lv_sub hl [0, 1, 2, 3, 4, 5, 6] rfl)
                exact L34_11 ((kk - 0) + 1) 0 (M (61 + 12 * s + g - 1)) (Nat.lt_succ_self _) (by omega) (rfl) (am_at ham (by omega) (by omega) (by omega)) _ _ hP hD hS _ (lv_sub hl [0, 1, 2, 3, 4, 5, 6] rfl)
              · -- 18 f
                rw [hml.1, hml.2] at c8
                have hdm : mdm M s g = 0 := if_neg c8
                refine lv_istore (lv' := [(4, .int (nI 0)), (3, .int (nI g)), (2, .int (nI s)), (0, .ref x), (1, .int (nI kk))]) hx hb dX7_goesOn_21 hl (by decide) rfl (fun ls hl => ?_)
                refine lv_aload_n hx hb dX7_goesOn_23 rfl (lv_at hl 3 rfl) ?_
                refine lv_iload_n hx hb dX7_goesOn_24 rfl (lv_at hl 2 rfl) ?_
                refine lv_iload_n hx hb dX7_goesOn_25 rfl (lv_at hl 1 rfl) ?_
                have hPc := zP_sub (w := [(x, .inr (7, [.ref ms, .ref mp, .int (nI pz), .ref mt, .int (nI len), .ref md, .int (nI sp), .int q1, .int q2, .int q3, .int q4, .int q5, .int (nI fm)])), (ms, .inl (E.2.1, 265, .inl (fun zz => nI ((gnL M kk (12 * s + (g - 1))) zz))))]) hP [0, 1] rfl
                refine z_rd (fun _ h => h) (va_runV (As := [.int (nI s), .int (nI g)]) (rest := []) hF (c_X7_loud l E x ms mp mt md pz len sp fm s g q1 q2 q3 q4 q5 (gnL M kk (12 * s + (g - 1))) (by first | assumption | omega) (by first | assumption | omega) (by first | assumption | omega)) (cwV 2 hts gX7_goesOn_X7_loud rfl rfl rfl (by decide +kernel) ⟨Nat.le_of_ble_eq_true rfl, Nat.le_of_ble_eq_true rfl⟩) (z_preRV (va_recv hG.1 hP (ci := 7) (q0 := 0) rfl rfl) hPc hG) rfl rfl hl.1 rfl (lv_room (Nat.le_of_ble_eq_true rfl)) dX7_goesOn_26 ⟨Nat.zero_le _, Nat.zero_le _⟩) (fun r18 hr18 => ?_)
                subst hr18
                have e19 : (gnL M kk (12 * s + (g - 1))) (61 + 12 * s + g - 1) = M (61 + 12 * s + g - 1) := by exact gnL_at i0
                rw [e19]
                refine lv_istore (lv' := [(5, .int (nI (M (61 + 12 * s + g - 1)))), (4, .int (nI 0)), (3, .int (nI g)), (2, .int (nI s)), (0, .ref x), (1, .int (nI kk))]) hx hb dX7_goesOn_29 hl (by decide) rfl (fun ls hl => ?_)
                refine lv_iconst (v := nI 0) hx hb dX7_goesOn_31 (by decide) ?_
                refine lv_istore (lv' := [(6, .int (nI 0)), (5, .int (nI (M (61 + 12 * s + g - 1)))), (4, .int (nI 0)), (3, .int (nI g)), (2, .int (nI s)), (0, .ref x), (1, .int (nI kk))]) hx hb dX7_goesOn_32 hl (by decide) rfl (fun ls hl => ?_)
                have L34_20 : ∀ (fuelZ : Nat) (tt : Nat) (av : Nat), kk - tt < fuelZ → (tt ≤ kk) → (av = fadeN (M 4) (M 5) (M 6) g (mdm M s g) tt (M (61 + 12 * s + g - 1))) → (av ≤ 1000000) → ∀ (HZ : Heap) (locsZ : List Loc), va_P E.1 vwCl [(x, .inr (7, [.ref ms, .ref mp, .int (nI pz), .ref mt, .int (nI len), .ref md, .int (nI sp), .int q1, .int q2, .int q3, .int q4, .int q5, .int (nI fm)])), (ms, .inl (E.2.1, 265, .inl (fun zz => nI ((gnL M kk (12 * s + (g - 1))) zz))))] HZ → va_D AZ [(x, .inr (7, [.ref ms, .ref mp, .int (nI pz), .ref mt, .int (nI len), .ref md, .int (nI sp), .int q1, .int q2, .int q3, .int q4, .int q5, .int (nI fm)])), (ms, .inl (E.2.1, 265, .inl (fun zz => nI ((gnL M kk (12 * s + (g - 1))) zz))))] → va_S AZ sZ.heap HZ locsZ → ∀ ls : Array Slot, lv_has ls 7 [(6, .int (nI tt)), (5, .int (nI av)), (4, .int (nI 0)), (3, .int (nI g)), (2, .int (nI s)), (0, .ref x), (1, .int (nI kk))] → W pZ l eZ ({ frames := 8, cells := 0, slots := 0, locals := 180 }) sZ mZ argsZ belowZ methZ cZ HZ locsZ 0 0 QZ (F0 mZ 34 ls []) := by
                  intro fuelZ
                  induction fuelZ with
                  | zero => intro tt av hm; exact absurd hm (Nat.not_lt_zero _)
                  | succ fuelZ ih34 =>
                    intro tt av hm u0 u1 u2 HZ locsZ hP hD hS ls hl
                    refine lv_iload hx hb dX7_goesOn_34 (lv_at hl 0 rfl) ?_
                    refine lv_iload_n hx hb dX7_goesOn_36 rfl (lv_at hl 6 rfl) ?_
                    refine z_icmp_ge (a := tt) (b := kk) (tgt := 62) hx hb dX7_goesOn_37 (by decide) (by omega) (by omega) (fun c21 => ?_) (fun c21 => ?_)
                    · -- 37 t
                      have hfin : av = fadeN (M 4) (M 5) (M 6) g (mdm M s g) kk (M (61 + 12 * s + g - 1)) := by first | (rw [u1]; congr 1; omega) | (rw [fadeN_z (by rw [← u1]; assumption) kk u0]; assumption)
                      refine lv_aload_n hx hb dX7_goesOn_62 rfl (lv_at hl 5 rfl) ?_
                      refine va_get (D := E.1) (ci := 7) (v := .ref ms) (C := RX7) (T := TX7) (N := 13) hx hb hts iwX7_goesOn_X7_c_X7_goesOn hown hG.1 hP 0 rfl rfl 0 (by decide) (hts (.fieldLink RX7 7 "FrettedStringsModel" "st" "[I") (by decide +kernel)) (fun _ h9 => h9) rfl dX7_goesOn_63 ?_
                      refine lv_bipush (v := nI 61) hx hb dX7_goesOn_66 (by decide) ?_
                      refine lv_bipush (v := nI 12) hx hb dX7_goesOn_68 (by decide) ?_
                      refine lv_iload_n hx hb dX7_goesOn_70 rfl (lv_at hl 4 rfl) ?_
                      refine z_imul (a := 12) (b := s) hx hb dX7_goesOn_71 ?_
                      refine z_iadd (a := 61) (b := 12 * s) hx hb dX7_goesOn_72 ?_
                      refine lv_iload_n hx hb dX7_goesOn_73 rfl (lv_at hl 3 rfl) ?_
                      refine z_iadd (a := 61 + (12 * s)) (b := g) hx hb dX7_goesOn_74 ?_
                      refine lv_iconst (v := nI 1) hx hb dX7_goesOn_75 (by decide) ?_
                      refine z_isub (a := (61 + (12 * s)) + g) (b := 1) hx hb dX7_goesOn_76 (by omega) ?_
                      refine lv_iload hx hb dX7_goesOn_77 (lv_at hl 1 rfl) ?_
                      refine z_iast (j := ((61 + (12 * s)) + g) - 1) (v := av) (g := va_up (gnL M kk (12 * s + (g - 1))) (((61 + (12 * s)) + g) - 1) av) hx hb hG hP hD hS 1 rfl (by omega) (by decide) (rfl) dX7_goesOn_79 (fun HZ locsZ hP hD hS => ?_)
                      have hP : va_P E.1 vwCl [(x, .inr (7, [.ref ms, .ref mp, .int (nI pz), .ref mt, .int (nI len), .ref md, .int (nI sp), .int q1, .int q2, .int q3, .int q4, .int q5, .int (nI fm)])), (ms, .inl (E.2.1, 265, .inl (fun zz => nI ((va_up (gnL M kk (12 * s + (g - 1))) (((61 + (12 * s)) + g) - 1) av) zz))))] _ := hP
                      have hD : va_D AZ [(x, .inr (7, [.ref ms, .ref mp, .int (nI pz), .ref mt, .int (nI len), .ref md, .int (nI sp), .int q1, .int q2, .int q3, .int q4, .int q5, .int (nI fm)])), (ms, .inl (E.2.1, 265, .inl (fun zz => nI ((va_up (gnL M kk (12 * s + (g - 1))) (((61 + (12 * s)) + g) - 1) av) zz))))] := hD
                      refine z_iinc (k := 3) (d := 1) (lv' := [(3, .int (nI (g + 1))), (6, .int (nI tt)), (5, .int (nI av)), (4, .int (nI 0)), (2, .int (nI s)), (0, .ref x), (1, .int (nI kk))]) hx hb dX7_goesOn_80 (by decide) hl rfl (by decide) rfl (fun ls hl => ?_)
                      refine lv_goto (tgt := 9) hx hb dX7_goesOn_83 (by decide) ?_
                      have e22 : (va_up (gnL M kk (12 * s + (g - 1))) (((61 + (12 * s)) + g) - 1) av : Nat → Nat) = gnL M kk (12 * s + ((g + 1) - 1)) := by first | rfl | (exact gnL_s i0 (by omega) hfin)
                      have hP : va_P E.1 vwCl [(x, .inr (7, [.ref ms, .ref mp, .int (nI pz), .ref mt, .int (nI len), .ref md, .int (nI sp), .int q1, .int q2, .int q3, .int q4, .int q5, .int (nI fm)])), (ms, .inl (E.2.1, 265, .inl (fun zz => nI ((gnL M kk (12 * s + ((g + 1) - 1))) zz))))] HZ := Eq.subst (motive := fun XX : Nat → Nat => va_P E.1 vwCl [(x, .inr (7, [.ref ms, .ref mp, .int (nI pz), .ref mt, .int (nI len), .ref md, .int (nI sp), .int q1, .int q2, .int q3, .int q4, .int q5, .int (nI fm)])), (ms, .inl (E.2.1, 265, .inl (fun zz => nI (XX zz))))] HZ) e22 hP
                      have hD : va_D AZ [(x, .inr (7, [.ref ms, .ref mp, .int (nI pz), .ref mt, .int (nI len), .ref md, .int (nI sp), .int q1, .int q2, .int q3, .int q4, .int q5, .int (nI fm)])), (ms, .inl (E.2.1, 265, .inl (fun zz => nI ((gnL M kk (12 * s + ((g + 1) - 1))) zz))))] := Eq.subst (motive := fun XX : Nat → Nat => va_D AZ [(x, .inr (7, [.ref ms, .ref mp, .int (nI pz), .ref mt, .int (nI len), .ref md, .int (nI sp), .int q1, .int q2, .int q3, .int q4, .int q5, .int (nI fm)])), (ms, .inl (E.2.1, 265, .inl (fun zz => nI (XX zz))))]) e22 hD
                      exact ih9 (g + 1) (by omega) (by omega) (by omega) _ _ hP hD hS _ (lv_sub hl [0, 4, 5, 6] rfl)
                    · -- 37 f
                      refine lv_iload hx hb dX7_goesOn_40 (lv_at hl 1 rfl) ?_
                      refine z_if_le (a := av) (tgt := 62) hx hb dX7_goesOn_42 (by decide) (by omega) (fun c23 => ?_) (fun c23 => ?_)
                      · -- 42 t
                        have hfin : av = fadeN (M 4) (M 5) (M 6) g (mdm M s g) kk (M (61 + 12 * s + g - 1)) := by first | (rw [u1]; congr 1; omega) | (rw [fadeN_z (by rw [← u1]; assumption) kk u0]; assumption)
                        refine lv_aload_n hx hb dX7_goesOn_62 rfl (lv_at hl 5 rfl) ?_
                        refine va_get (D := E.1) (ci := 7) (v := .ref ms) (C := RX7) (T := TX7) (N := 13) hx hb hts iwX7_goesOn_X7_c_X7_goesOn hown hG.1 hP 0 rfl rfl 0 (by decide) (hts (.fieldLink RX7 7 "FrettedStringsModel" "st" "[I") (by decide +kernel)) (fun _ h9 => h9) rfl dX7_goesOn_63 ?_
                        refine lv_bipush (v := nI 61) hx hb dX7_goesOn_66 (by decide) ?_
                        refine lv_bipush (v := nI 12) hx hb dX7_goesOn_68 (by decide) ?_
                        refine lv_iload_n hx hb dX7_goesOn_70 rfl (lv_at hl 4 rfl) ?_
                        refine z_imul (a := 12) (b := s) hx hb dX7_goesOn_71 ?_
                        refine z_iadd (a := 61) (b := 12 * s) hx hb dX7_goesOn_72 ?_
                        refine lv_iload_n hx hb dX7_goesOn_73 rfl (lv_at hl 3 rfl) ?_
                        refine z_iadd (a := 61 + (12 * s)) (b := g) hx hb dX7_goesOn_74 ?_
                        refine lv_iconst (v := nI 1) hx hb dX7_goesOn_75 (by decide) ?_
                        refine z_isub (a := (61 + (12 * s)) + g) (b := 1) hx hb dX7_goesOn_76 (by omega) ?_
                        refine lv_iload hx hb dX7_goesOn_77 (lv_at hl 1 rfl) ?_
                        refine z_iast (j := ((61 + (12 * s)) + g) - 1) (v := av) (g := va_up (gnL M kk (12 * s + (g - 1))) (((61 + (12 * s)) + g) - 1) av) hx hb hG hP hD hS 1 rfl (by omega) (by decide) (rfl) dX7_goesOn_79 (fun HZ locsZ hP hD hS => ?_)
                        have hP : va_P E.1 vwCl [(x, .inr (7, [.ref ms, .ref mp, .int (nI pz), .ref mt, .int (nI len), .ref md, .int (nI sp), .int q1, .int q2, .int q3, .int q4, .int q5, .int (nI fm)])), (ms, .inl (E.2.1, 265, .inl (fun zz => nI ((va_up (gnL M kk (12 * s + (g - 1))) (((61 + (12 * s)) + g) - 1) av) zz))))] _ := hP
                        have hD : va_D AZ [(x, .inr (7, [.ref ms, .ref mp, .int (nI pz), .ref mt, .int (nI len), .ref md, .int (nI sp), .int q1, .int q2, .int q3, .int q4, .int q5, .int (nI fm)])), (ms, .inl (E.2.1, 265, .inl (fun zz => nI ((va_up (gnL M kk (12 * s + (g - 1))) (((61 + (12 * s)) + g) - 1) av) zz))))] := hD
                        refine z_iinc (k := 3) (d := 1) (lv' := [(3, .int (nI (g + 1))), (6, .int (nI tt)), (5, .int (nI av)), (4, .int (nI 0)), (2, .int (nI s)), (0, .ref x), (1, .int (nI kk))]) hx hb dX7_goesOn_80 (by decide) hl rfl (by decide) rfl (fun ls hl => ?_)
                        refine lv_goto (tgt := 9) hx hb dX7_goesOn_83 (by decide) ?_
                        have e24 : (va_up (gnL M kk (12 * s + (g - 1))) (((61 + (12 * s)) + g) - 1) av : Nat → Nat) = gnL M kk (12 * s + ((g + 1) - 1)) := by first | rfl | (exact gnL_s i0 (by omega) hfin)
                        have hP : va_P E.1 vwCl [(x, .inr (7, [.ref ms, .ref mp, .int (nI pz), .ref mt, .int (nI len), .ref md, .int (nI sp), .int q1, .int q2, .int q3, .int q4, .int q5, .int (nI fm)])), (ms, .inl (E.2.1, 265, .inl (fun zz => nI ((gnL M kk (12 * s + ((g + 1) - 1))) zz))))] HZ := Eq.subst (motive := fun XX : Nat → Nat => va_P E.1 vwCl [(x, .inr (7, [.ref ms, .ref mp, .int (nI pz), .ref mt, .int (nI len), .ref md, .int (nI sp), .int q1, .int q2, .int q3, .int q4, .int q5, .int (nI fm)])), (ms, .inl (E.2.1, 265, .inl (fun zz => nI (XX zz))))] HZ) e24 hP
                        have hD : va_D AZ [(x, .inr (7, [.ref ms, .ref mp, .int (nI pz), .ref mt, .int (nI len), .ref md, .int (nI sp), .int q1, .int q2, .int q3, .int q4, .int q5, .int (nI fm)])), (ms, .inl (E.2.1, 265, .inl (fun zz => nI ((gnL M kk (12 * s + ((g + 1) - 1))) zz))))] := Eq.subst (motive := fun XX : Nat → Nat => va_D AZ [(x, .inr (7, [.ref ms, .ref mp, .int (nI pz), .ref mt, .int (nI len), .ref md, .int (nI sp), .int q1, .int q2, .int q3, .int q4, .int q5, .int (nI fm)])), (ms, .inl (E.2.1, 265, .inl (fun zz => nI (XX zz))))]) e24 hD
                        exact ih9 (g + 1) (by omega) (by omega) (by omega) _ _ hP hD hS _ (lv_sub hl [0, 4, 5, 6] rfl)
                      · -- 42 f
                        refine lv_aload_n hx hb dX7_goesOn_45 rfl (lv_at hl 5 rfl) ?_
                        refine lv_iload hx hb dX7_goesOn_46 (lv_at hl 1 rfl) ?_
                        refine lv_iload_n hx hb dX7_goesOn_48 rfl (lv_at hl 3 rfl) ?_
                        refine lv_iload hx hb dX7_goesOn_49 (lv_at hl 2 rfl) ?_
                        have hPc := zP_sub (w := [(x, .inr (7, [.ref ms, .ref mp, .int (nI pz), .ref mt, .int (nI len), .ref md, .int (nI sp), .int q1, .int q2, .int q3, .int q4, .int q5, .int (nI fm)])), (ms, .inl (E.2.1, 265, .inl (fun zz => nI ((gnL M kk (12 * s + (g - 1))) zz))))]) hP [0, 1] rfl
                        refine z_rd (fun _ h => h) (va_runV (As := [.int (nI av), .int (nI g), .int (nI 0)]) (rest := []) hF (c_X7_fades l E x ms mp mt md pz len sp fm av g 0 q1 q2 q3 q4 q5 (gnL M kk (12 * s + (g - 1))) (by first | assumption | omega) (by first | assumption | omega) (by first | assumption | omega) (by rw [gnL_lo _ _ _ _ (by omega)]; exact h40) (by rw [gnL_lo _ _ _ _ (by omega)]; exact h50) (by rw [gnL_lo _ _ _ _ (by omega)]; exact h60) (by first | assumption | omega)) (cwV 3 hts gX7_goesOn_X7_fades rfl rfl rfl (by decide +kernel) ⟨Nat.le_of_ble_eq_true rfl, Nat.le_of_ble_eq_true rfl⟩) (z_preRV (va_recv hG.1 hP (ci := 7) (q0 := 0) rfl rfl) hPc hG) rfl rfl hl.1 rfl (lv_room (Nat.le_of_ble_eq_true rfl)) dX7_goesOn_51 ⟨Nat.zero_le _, Nat.zero_le _⟩) (fun r25 hr25 => ?_)
                        subst hr25
                        have e26 : fade ((gnL M kk (12 * s + (g - 1))) 4) ((gnL M kk (12 * s + (g - 1))) 5) ((gnL M kk (12 * s + (g - 1))) 6) g 0 av = fade (M 4) (M 5) (M 6) g 0 av := by rw [gnL_lo _ _ _ _ (by omega), gnL_lo _ _ _ _ (by omega), gnL_lo _ _ _ _ (by omega)]
                        rw [e26]
                        refine lv_istore (lv' := [(5, .int (nI (fade (M 4) (M 5) (M 6) g 0 av))), (6, .int (nI tt)), (4, .int (nI 0)), (3, .int (nI g)), (2, .int (nI s)), (0, .ref x), (1, .int (nI kk))]) hx hb dX7_goesOn_54 hl (by decide) rfl (fun ls hl => ?_)
                        refine z_iinc (k := 1) (d := 1) (lv' := [(6, .int (nI (tt + 1))), (5, .int (nI (fade (M 4) (M 5) (M 6) g 0 av))), (4, .int (nI 0)), (3, .int (nI g)), (2, .int (nI s)), (0, .ref x), (1, .int (nI kk))]) hx hb dX7_goesOn_56 (by decide) hl rfl (by decide) rfl (fun ls hl => ?_)
                        refine lv_goto (tgt := 34) hx hb dX7_goesOn_59 (by decide) ?_
                        exact ih34 (tt + 1) (fade (M 4) (M 5) (M 6) g 0 av) (by omega) (by omega) (by rw [u1, hdm]; rfl) (Nat.le_trans fade_le u2) _ _ hP hD hS _ (lv_sub hl [0, 1, 2, 3, 4, 5, 6] rfl)
                exact L34_20 ((kk - 0) + 1) 0 (M (61 + 12 * s + g - 1)) (Nat.lt_succ_self _) (by omega) (rfl) (am_at ham (by omega) (by omega) (by omega)) _ _ hP hD hS _ (lv_sub hl [0, 1, 2, 3, 4, 5, 6] rfl)
        have e27 : (gnL M kk (12 * s) : Nat → Nat) = gnL M kk (12 * s + (1 - 1)) := by first | rfl | (rw [show 12 * s + (1 - 1) = 12 * s by omega])
        have hP : va_P E.1 vwCl [(x, .inr (7, [.ref ms, .ref mp, .int (nI pz), .ref mt, .int (nI len), .ref md, .int (nI sp), .int q1, .int q2, .int q3, .int q4, .int q5, .int (nI fm)])), (ms, .inl (E.2.1, 265, .inl (fun zz => nI ((gnL M kk (12 * s + (1 - 1))) zz))))] HZ := Eq.subst (motive := fun XX : Nat → Nat => va_P E.1 vwCl [(x, .inr (7, [.ref ms, .ref mp, .int (nI pz), .ref mt, .int (nI len), .ref md, .int (nI sp), .int q1, .int q2, .int q3, .int q4, .int q5, .int (nI fm)])), (ms, .inl (E.2.1, 265, .inl (fun zz => nI (XX zz))))] HZ) e27 hP
        have hD : va_D AZ [(x, .inr (7, [.ref ms, .ref mp, .int (nI pz), .ref mt, .int (nI len), .ref md, .int (nI sp), .int q1, .int q2, .int q3, .int q4, .int q5, .int (nI fm)])), (ms, .inl (E.2.1, 265, .inl (fun zz => nI ((gnL M kk (12 * s + (1 - 1))) zz))))] := Eq.subst (motive := fun XX : Nat → Nat => va_D AZ [(x, .inr (7, [.ref ms, .ref mp, .int (nI pz), .ref mt, .int (nI len), .ref md, .int (nI sp), .int q1, .int q2, .int q3, .int q4, .int q5, .int (nI fm)])), (ms, .inl (E.2.1, 265, .inl (fun zz => nI (XX zz))))]) e27 hD
        exact L9_4 ((13 - 1) + 1) 1 (Nat.lt_succ_self _) (by omega) (by omega) _ _ hP hD hS _ (lv_sub hl [0, 1, 2, 3] rfl)
  have e28 : (M : Nat → Nat) = gnL M kk (12 * 0) := by first | rfl | (exact gnL_0 M kk)
  have hP : va_P E.1 vwCl [(x, .inr (7, [.ref ms, .ref mp, .int (nI pz), .ref mt, .int (nI len), .ref md, .int (nI sp), .int q1, .int q2, .int q3, .int q4, .int q5, .int (nI fm)])), (ms, .inl (E.2.1, 265, .inl (fun zz => nI ((gnL M kk (12 * 0)) zz))))] HZ := Eq.subst (motive := fun XX : Nat → Nat => va_P E.1 vwCl [(x, .inr (7, [.ref ms, .ref mp, .int (nI pz), .ref mt, .int (nI len), .ref md, .int (nI sp), .int q1, .int q2, .int q3, .int q4, .int q5, .int (nI fm)])), (ms, .inl (E.2.1, 265, .inl (fun zz => nI (XX zz))))] HZ) e28 hP
  have hD : va_D AZ [(x, .inr (7, [.ref ms, .ref mp, .int (nI pz), .ref mt, .int (nI len), .ref md, .int (nI sp), .int q1, .int q2, .int q3, .int q4, .int q5, .int (nI fm)])), (ms, .inl (E.2.1, 265, .inl (fun zz => nI ((gnL M kk (12 * 0)) zz))))] := Eq.subst (motive := fun XX : Nat → Nat => va_D AZ [(x, .inr (7, [.ref ms, .ref mp, .int (nI pz), .ref mt, .int (nI len), .ref md, .int (nI sp), .int q1, .int q2, .int q3, .int q4, .int q5, .int (nI fm)])), (ms, .inl (E.2.1, 265, .inl (fun zz => nI (XX zz))))]) e28 hD
  exact L2_1 ((4 - 0) + 1) 0 (Nat.lt_succ_self _) (by omega) _ _ hP hD hS _ (lv_sub hl [0, 1, 2] rfl)
