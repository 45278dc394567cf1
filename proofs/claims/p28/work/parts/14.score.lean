theorem iwX3_signAt_X3_c_X3_signAt : ∀ w ∈ wsX30, w ∈ wsX3_signAt := by decide +kernel
set_option maxHeartbeats 1000000 in
set_option maxRecDepth 100000 in
theorem c_X3_signAt (l : Launch) (E : zE) (sc ch len pl fp i : Nat) (st fr fo ti to : Int32) (Ch : Nat → Nat) (hCh : ∀ i, i < 80 → Ch i ≤ 126) (hlen : len ≤ 80) (hi : i ≤ 1000000) : zR l yX3_signAt wsX3_signAt ({ frames := 0, cells := 0, slots := 0, locals := 0 }) E [.ref sc, .int (nI i)] [(sc, .inr (3, [.int (nI len), .ref ch, .int st, .int fr, .int fo, .int ti, .int (nI pl), .int to, .int (nI fp)])), (ch, .inl (E.2.2.1, 80, .inl (fun zz => nI (Ch zz))))] (fun r => r = nI (sgn Ch len i)) := by
  refine zR.start (own := RX3) rfl (by decide +kernel) rfl (Nat.le_of_ble_eq_true rfl) (by rintro v rfl; exact z_char (sgn_le hCh hlen)) ?_
  intro pZ eZ sZ mZ argsZ belowZ methZ cZ QZ hF hret hP hG ls hl
  obtain ⟨hx, hb, hml, hown, hts⟩ := id hF
  have hl : lv_has ls 2 [(0, .ref sc), (1, .int (nI i))] := hl
  refine lv_iload_n hx hb dX3_signAt_0 rfl (lv_at hl 1 rfl) ?_
  refine z_if_lt (tgt := 30) hx hb dX3_signAt_1 (by decide) (by omega) ?_
  refine lv_iload_n hx hb dX3_signAt_4 rfl (lv_at hl 1 rfl) ?_
  refine lv_aload_n hx hb dX3_signAt_5 rfl (lv_at hl 0 rfl) ?_
  refine va_get (D := E.1) (ci := 3) (v := .int (nI len)) (C := RX3) (T := TX3) (N := 9) hx hb hts iwX3_signAt_X3_c_X3_signAt hown hG.1 hP 0 rfl rfl 0 (by decide) (hts (.fieldLink RX3 15 "FrettedStrings$Score" "length" "I") (by decide +kernel)) (fun _ h9 => h9) rfl dX3_signAt_6 ?_
  refine z_icmp_ge (a := i) (b := len) (tgt := 30) hx hb dX3_signAt_9 (by decide) (by omega) (by omega) (fun c1 => ?_) (fun c1 => ?_)
  · -- 9 t
    refine lv_iconst (v := nI 0) hx hb dX3_signAt_30 (by decide) ?_
    exact hret _ _ _ dX3_signAt_31 (by unfold sgn; first | rw [if_pos (by omega)] | rw [if_neg (by omega)])
  · -- 9 f
    refine lv_iload_n hx hb dX3_signAt_12 rfl (lv_at hl 1 rfl) ?_
    refine lv_aload_n hx hb dX3_signAt_13 rfl (lv_at hl 0 rfl) ?_
    refine va_get (D := E.1) (ci := 3) (v := .ref ch) (C := RX3) (T := TX3) (N := 9) hx hb hts iwX3_signAt_X3_c_X3_signAt hown hG.1 hP 0 rfl rfl 1 (by decide) (hts (.fieldLink RX3 9 "FrettedStrings$Score" "characters" "[C") (by decide +kernel)) (fun _ h9 => h9) rfl dX3_signAt_14 ?_
    refine va_alen (v := nI 80) hx hb hG.1 hP 1 1 rfl rfl rfl dX3_signAt_17 ?_
    refine z_icmp_ge (a := i) (b := 80) (tgt := 30) hx hb dX3_signAt_18 (by decide) (by omega) (by omega) (fun c2 => ?_) (fun c2 => ?_)
    · -- 18 t
      omega
    · -- 18 f
      refine lv_aload_n hx hb dX3_signAt_21 rfl (lv_at hl 0 rfl) ?_
      refine va_get (D := E.1) (ci := 3) (v := .ref ch) (C := RX3) (T := TX3) (N := 9) hx hb hts iwX3_signAt_X3_c_X3_signAt hown hG.1 hP 0 rfl rfl 1 (by decide) (hts (.fieldLink RX3 9 "FrettedStrings$Score" "characters" "[C") (by decide +kernel)) (fun _ h9 => h9) rfl dX3_signAt_22 ?_
      refine lv_iload_n hx hb dX3_signAt_25 rfl (lv_at hl 1 rfl) ?_
      refine z_cald (j := i) (v := Ch i) hx hb hG hP 1 rfl (by omega) (by decide) (rfl) dX3_signAt_26 ?_
      refine lv_goto (tgt := 31) hx hb dX3_signAt_27 (by decide) ?_
      exact hret _ _ _ dX3_signAt_31 (by unfold sgn; first | rw [if_pos (by omega)] | rw [if_neg (by omega)])
theorem iwX3_append_X3_c_X3_append : ∀ w ∈ wsX30, w ∈ wsX3_append := by decide +kernel
set_option maxHeartbeats 1000000 in
set_option maxRecDepth 100000 in
theorem c_X3_append (l : Launch) (E : zE) (sc ch len pl fp c : Nat) (st fr fo ti to : Int32) (Ch : Nat → Nat) (hlen : len < 80) (hc : c ≤ 126) : zV l yX3_append wsX3_append ({ frames := 0, cells := 0, slots := 0, locals := 0 }) E [.ref sc, .int (nI c)] [(sc, .inr (3, [.int (nI len), .ref ch, .int st, .int fr, .int fo, .int ti, .int (nI pl), .int to, .int (nI fp)])), (ch, .inl (E.2.2.1, 80, .inl (fun zz => nI (Ch zz))))] (fun w' => w' = [(sc, .inr (3, [.int (nI (len + 1)), .ref ch, .int st, .int fr, .int fo, .int ti, .int (nI pl), .int to, .int (nI fp)])), (ch, .inl (E.2.2.1, 80, .inl (fun zz => nI ((va_up Ch len c) zz))))]) := by
  refine zV.start (own := RX3) rfl (by decide +kernel) rfl (Nat.le_of_ble_eq_true rfl) ?_
  intro pZ eZ sZ mZ argsZ belowZ methZ cZ QZ AZ hF hret HZ locsZ hP hD hS hG ls hl
  obtain ⟨hx, hb, hml, hown, hts⟩ := id hF
  have hl : lv_has ls 2 [(0, .ref sc), (1, .int (nI c))] := hl
  refine lv_aload_n hx hb dX3_append_0 rfl (lv_at hl 0 rfl) ?_
  refine va_get (D := E.1) (ci := 3) (v := .int (nI len)) (C := RX3) (T := TX3) (N := 9) hx hb hts iwX3_append_X3_c_X3_append hown hG.1 hP 0 rfl rfl 0 (by decide) (hts (.fieldLink RX3 15 "FrettedStrings$Score" "length" "I") (by decide +kernel)) (fun _ h9 => h9) rfl dX3_append_1 ?_
  refine z_if_lt (tgt := 39) hx hb dX3_append_4 (by decide) (by omega) ?_
  refine lv_aload_n hx hb dX3_append_7 rfl (lv_at hl 0 rfl) ?_
  refine va_get (D := E.1) (ci := 3) (v := .int (nI len)) (C := RX3) (T := TX3) (N := 9) hx hb hts iwX3_append_X3_c_X3_append hown hG.1 hP 0 rfl rfl 0 (by decide) (hts (.fieldLink RX3 15 "FrettedStrings$Score" "length" "I") (by decide +kernel)) (fun _ h9 => h9) rfl dX3_append_8 ?_
  refine lv_aload_n hx hb dX3_append_11 rfl (lv_at hl 0 rfl) ?_
  refine va_get (D := E.1) (ci := 3) (v := .ref ch) (C := RX3) (T := TX3) (N := 9) hx hb hts iwX3_append_X3_c_X3_append hown hG.1 hP 0 rfl rfl 1 (by decide) (hts (.fieldLink RX3 9 "FrettedStrings$Score" "characters" "[C") (by decide +kernel)) (fun _ h9 => h9) rfl dX3_append_12 ?_
  refine va_alen (v := nI 80) hx hb hG.1 hP 1 1 rfl rfl rfl dX3_append_15 ?_
  refine z_icmp_ge (a := len) (b := 80) (tgt := 39) hx hb dX3_append_16 (by decide) (by omega) (by omega) (fun c1 => ?_) (fun c1 => ?_)
  · -- 16 t
    omega
  · -- 16 f
    refine lv_aload_n hx hb dX3_append_19 rfl (lv_at hl 0 rfl) ?_
    refine va_get (D := E.1) (ci := 3) (v := .ref ch) (C := RX3) (T := TX3) (N := 9) hx hb hts iwX3_append_X3_c_X3_append hown hG.1 hP 0 rfl rfl 1 (by decide) (hts (.fieldLink RX3 9 "FrettedStrings$Score" "characters" "[C") (by decide +kernel)) (fun _ h9 => h9) rfl dX3_append_20 ?_
    refine lv_aload_n hx hb dX3_append_23 rfl (lv_at hl 0 rfl) ?_
    refine va_get (D := E.1) (ci := 3) (v := .int (nI len)) (C := RX3) (T := TX3) (N := 9) hx hb hts iwX3_append_X3_c_X3_append hown hG.1 hP 0 rfl rfl 0 (by decide) (hts (.fieldLink RX3 15 "FrettedStrings$Score" "length" "I") (by decide +kernel)) (fun _ h9 => h9) rfl dX3_append_24 ?_
    refine lv_iload_n hx hb dX3_append_27 rfl (lv_at hl 1 rfl) ?_
    refine z_cast (j := len) (v := c) (g := va_up Ch len c) hx hb hG hP hD hS 1 rfl (by omega) (by decide) (rfl) (by omega) dX3_append_28 (fun HZ locsZ hP hD hS => ?_)
    have hP : va_P E.1 vwCl [(sc, .inr (3, [.int (nI len), .ref ch, .int st, .int fr, .int fo, .int ti, .int (nI pl), .int to, .int (nI fp)])), (ch, .inl (E.2.2.1, 80, .inl (fun zz => nI ((va_up Ch len c) zz))))] _ := hP
    have hD : va_D AZ [(sc, .inr (3, [.int (nI len), .ref ch, .int st, .int fr, .int fo, .int ti, .int (nI pl), .int to, .int (nI fp)])), (ch, .inl (E.2.2.1, 80, .inl (fun zz => nI ((va_up Ch len c) zz))))] := hD
    refine lv_aload_n hx hb dX3_append_29 rfl (lv_at hl 0 rfl) ?_
    refine lv_dup hx hb dX3_append_30 rfl ?_
    refine va_get (D := E.1) (ci := 3) (v := .int (nI len)) (C := RX3) (T := TX3) (N := 9) hx hb hts iwX3_append_X3_c_X3_append hown hG.1 hP 0 rfl rfl 0 (by decide) (hts (.fieldLink RX3 15 "FrettedStrings$Score" "length" "I") (by decide +kernel)) (fun _ h9 => h9) rfl dX3_append_31 ?_
    refine lv_iconst (v := nI 1) hx hb dX3_append_34 (by decide) ?_
    refine z_iadd (a := len) (b := 1) hx hb dX3_append_35 ?_
    refine va_put (D := E.1) (ci := 3) (v := .int (nI (len + 1))) (ty := .int) (C := RX3) (T := TX3) (N := 9) hx hb hts iwX3_append_X3_c_X3_append tyX3 tyX3_ok nmX3 hown hG.1 hP hD hS 0 rfl rfl 0 (by decide) (hts (.fieldLink RX3 15 "FrettedStrings$Score" "length" "I") (by decide +kernel)) (fun _ h9 => h9) rfl (by decide +kernel) rfl rfl (Nat.le_of_ble_eq_true rfl) dX3_append_36 (fun HZ locsZ hP hD hS => ?_)
    have hP : va_P E.1 vwCl [(sc, .inr (3, [.int (nI (len + 1)), .ref ch, .int st, .int fr, .int fo, .int ti, .int (nI pl), .int to, .int (nI fp)])), (ch, .inl (E.2.2.1, 80, .inl (fun zz => nI ((va_up Ch len c) zz))))] _ := hP
    have hD : va_D AZ [(sc, .inr (3, [.int (nI (len + 1)), .ref ch, .int st, .int fr, .int fo, .int ti, .int (nI pl), .int to, .int (nI fp)])), (ch, .inl (E.2.2.1, 80, .inl (fun zz => nI ((va_up Ch len c) zz))))] := hD
    exact hret _ _ _ _ _ hP hS dX3_append_39 rfl rfl
theorem iwX3_readSign_X3_c_X3_readSign : ∀ w ∈ wsX30, w ∈ wsX3_readSign := by decide +kernel
set_option maxHeartbeats 1000000 in
set_option maxRecDepth 100000 in
theorem c_X3_readSign (l : Launch) (E : zE) (sc ch len pl fp c : Nat) (st fr fo ti to : Int32) (Ch : Nat → Nat) (hCh : ∀ i, i < 80 → Ch i ≤ 126) (hlen : len ≤ 80) (hpl : pl ≤ 1000000) (hc : c ≤ 126) : zM l yX3_readSign wsX3_readSign ({ frames := 1, cells := 0, slots := 0, locals := 21 }) E [.ref sc, .int (nI c)] [(sc, .inr (3, [.int (nI len), .ref ch, .int st, .int fr, .int fo, .int ti, .int (nI pl), .int to, .int (nI fp)])), (ch, .inl (E.2.2.1, 80, .inl (fun zz => nI (Ch zz))))] (fun r w' => (r = nI 1 ∧ (sgn Ch len pl = c) ∧ w' = [(sc, .inr (3, [.int (nI len), .ref ch, .int st, .int fr, .int fo, .int ti, .int (nI (pl + 1)), .int to, .int (nI fp)])), (ch, .inl (E.2.2.1, 80, .inl (fun zz => nI (Ch zz))))]) ∨ (r = nI 0 ∧ (¬ (sgn Ch len pl = c)) ∧ w' = [(sc, .inr (3, [.int (nI len), .ref ch, .int st, .int fr, .int fo, .int ti, .int (nI pl), .int to, .int (nI fp)])), (ch, .inl (E.2.2.1, 80, .inl (fun zz => nI (Ch zz))))])) := by
  refine zM.start (own := RX3) rfl (by decide +kernel) rfl (Nat.le_of_ble_eq_true rfl) (z_narM2) ?_
  intro pZ eZ sZ mZ argsZ belowZ methZ cZ QZ AZ hF hret HZ locsZ hP hD hS hG ls hl
  obtain ⟨hx, hb, hml, hown, hts⟩ := id hF
  have hl : lv_has ls 2 [(0, .ref sc), (1, .int (nI c))] := hl
  refine lv_aload_n hx hb dX3_readSign_0 rfl (lv_at hl 0 rfl) ?_
  refine lv_aload_n hx hb dX3_readSign_1 rfl (lv_at hl 0 rfl) ?_
  refine va_get (D := E.1) (ci := 3) (v := .int (nI pl)) (C := RX3) (T := TX3) (N := 9) hx hb hts iwX3_readSign_X3_c_X3_readSign hown hG.1 hP 0 rfl rfl 6 (by decide) (hts (.fieldLink RX3 29 "FrettedStrings$Score" "place" "I") (by decide +kernel)) (fun _ h9 => h9) rfl dX3_readSign_2 ?_
  have hPc := zP_sub (w := [(sc, .inr (3, [.int (nI len), .ref ch, .int st, .int fr, .int fo, .int ti, .int (nI pl), .int to, .int (nI fp)])), (ch, .inl (E.2.2.1, 80, .inl (fun zz => nI (Ch zz))))]) hP [0, 1] rfl
  refine z_rd (fun _ h => h) (va_runV (As := [.int (nI pl)]) (rest := []) hF (c_X3_signAt l E sc ch len pl fp pl st fr fo ti to Ch (hCh) (hlen) (by omega)) (cwV 1 hts gX3_readSign_X3_signAt rfl rfl rfl (by decide +kernel) ⟨Nat.le_of_ble_eq_true rfl, Nat.le_of_ble_eq_true rfl⟩) (z_preRV (va_recv hG.1 hP (ci := 3) (q0 := 0) rfl rfl) hPc hG) rfl rfl hl.1 rfl (lv_room (Nat.le_of_ble_eq_true rfl)) dX3_readSign_5 ⟨Nat.zero_le _, Nat.zero_le _⟩) (fun r1 hr1 => ?_)
  subst hr1
  have hsg := sgn_le (i := pl) hCh hlen
  refine lv_iload_n hx hb dX3_readSign_8 rfl (lv_at hl 1 rfl) ?_
  refine z_icmp_eq (a := sgn Ch len pl) (b := c) (tgt := 14) hx hb dX3_readSign_9 (by decide) (by omega) (by omega) (fun c2 => ?_) (fun c2 => ?_)
  · -- 9 t
    refine lv_aload_n hx hb dX3_readSign_14 rfl (lv_at hl 0 rfl) ?_
    refine lv_dup hx hb dX3_readSign_15 rfl ?_
    refine va_get (D := E.1) (ci := 3) (v := .int (nI pl)) (C := RX3) (T := TX3) (N := 9) hx hb hts iwX3_readSign_X3_c_X3_readSign hown hG.1 hP 0 rfl rfl 6 (by decide) (hts (.fieldLink RX3 29 "FrettedStrings$Score" "place" "I") (by decide +kernel)) (fun _ h9 => h9) rfl dX3_readSign_16 ?_
    refine lv_iconst (v := nI 1) hx hb dX3_readSign_19 (by decide) ?_
    refine z_iadd (a := pl) (b := 1) hx hb dX3_readSign_20 ?_
    refine va_put (D := E.1) (ci := 3) (v := .int (nI (pl + 1))) (ty := .int) (C := RX3) (T := TX3) (N := 9) hx hb hts iwX3_readSign_X3_c_X3_readSign tyX3 tyX3_ok nmX3 hown hG.1 hP hD hS 0 rfl rfl 6 (by decide) (hts (.fieldLink RX3 29 "FrettedStrings$Score" "place" "I") (by decide +kernel)) (fun _ h9 => h9) rfl (by decide +kernel) rfl rfl (Nat.le_of_ble_eq_true rfl) dX3_readSign_21 (fun HZ locsZ hP hD hS => ?_)
    have hP : va_P E.1 vwCl [(sc, .inr (3, [.int (nI len), .ref ch, .int st, .int fr, .int fo, .int ti, .int (nI (pl + 1)), .int to, .int (nI fp)])), (ch, .inl (E.2.2.1, 80, .inl (fun zz => nI (Ch zz))))] _ := hP
    have hD : va_D AZ [(sc, .inr (3, [.int (nI len), .ref ch, .int st, .int fr, .int fo, .int ti, .int (nI (pl + 1)), .int to, .int (nI fp)])), (ch, .inl (E.2.2.1, 80, .inl (fun zz => nI (Ch zz))))] := hD
    refine lv_iconst (v := nI 1) hx hb dX3_readSign_24 (by decide) ?_
    exact hret _ _ _ _ _ _ hP hS dX3_readSign_25 rfl (Or.inl ⟨rfl, by omega, rfl⟩)
  · -- 9 f
    refine lv_iconst (v := nI 0) hx hb dX3_readSign_12 (by decide) ?_
    exact hret _ _ _ _ _ _ hP hS dX3_readSign_13 rfl (Or.inr (⟨rfl, by omega, rfl⟩))
theorem iwX3_readNumber_X3_c_X3_readNumber : ∀ w ∈ wsX30, w ∈ wsX3_readNumber := by decide +kernel
set_option maxHeartbeats 1000000 in
set_option maxRecDepth 100000 in
theorem c_X3_readNumber (l : Launch) (E : zE) (sc ch len pl fp k : Nat) (st fr fo ti to : Int32) (Ch : Nat → Nat) (hCh : ∀ i, i < 80 → Ch i ≤ 126) (hlen : len ≤ 80) (hpl : pl ≤ 1000) (hk : k ≤ 4) : zM l yX3_readNumber wsX3_readNumber ({ frames := 1, cells := 0, slots := 0, locals := 21 }) E [.ref sc, .int (nI k)] [(sc, .inr (3, [.int (nI len), .ref ch, .int st, .int fr, .int fo, .int ti, .int (nI pl), .int to, .int (nI fp)])), (ch, .inl (E.2.2.1, 80, .inl (fun zz => nI (Ch zz))))] (fun r w' => r = rdR Ch len pl k ∧ w' = [(sc, .inr (3, [.int (nI len), .ref ch, .int st, .int fr, .int fo, .int ti, .int (nI (pl + nD Ch len pl k)), .int to, .int (nI fp)])), (ch, .inl (E.2.2.1, 80, .inl (fun zz => nI (Ch zz))))]) := by
  refine zM.start (own := RX3) rfl (by decide +kernel) rfl (Nat.le_of_ble_eq_true rfl) (fun _ _ _ => rfl) ?_
  intro pZ eZ sZ mZ argsZ belowZ methZ cZ QZ AZ hF hret HZ locsZ hP hD hS hG ls hl
  obtain ⟨hx, hb, hml, hown, hts⟩ := id hF
  have hl : lv_has ls 4 [(0, .ref sc), (1, .int (nI k))] := hl
  refine lv_iconst (v := nI 0) hx hb dX3_readNumber_0 (by decide) ?_
  refine lv_istore_n (lv' := [(2, .int (nI 0)), (0, .ref sc), (1, .int (nI k))]) hx hb dX3_readNumber_1 rfl hl (by decide) rfl (fun ls hl => ?_)
  refine lv_iconst (v := nI 0) hx hb dX3_readNumber_2 (by decide) ?_
  refine lv_istore_n (lv' := [(3, .int (nI 0)), (2, .int (nI 0)), (0, .ref sc), (1, .int (nI k))]) hx hb dX3_readNumber_3 rfl hl (by decide) rfl (fun ls hl => ?_)
  have L4_1 : ∀ (fuelZ : Nat) (d : Nat), k - d < fuelZ → (d ≤ k) → (nD Ch len pl k = d + nD Ch len (pl + d) (k - d)) → ∀ (HZ : Heap) (locsZ : List Loc), va_P E.1 vwCl [(sc, .inr (3, [.int (nI len), .ref ch, .int st, .int fr, .int fo, .int ti, .int (nI (pl + d)), .int to, .int (nI fp)])), (ch, .inl (E.2.2.1, 80, .inl (fun zz => nI (Ch zz))))] HZ → va_D AZ [(sc, .inr (3, [.int (nI len), .ref ch, .int st, .int fr, .int fo, .int ti, .int (nI (pl + d)), .int to, .int (nI fp)])), (ch, .inl (E.2.2.1, 80, .inl (fun zz => nI (Ch zz))))] → va_S AZ sZ.heap HZ locsZ → ∀ ls : Array Slot, lv_has ls 4 [(3, .int (nI d)), (2, .int (nI (rdV Ch pl d))), (0, .ref sc), (1, .int (nI k))] → W pZ l eZ ({ frames := 1, cells := 0, slots := 0, locals := 21 }) sZ mZ argsZ belowZ methZ cZ HZ locsZ 0 0 QZ (F0 mZ 4 ls []) := by
    intro fuelZ
    induction fuelZ with
    | zero => intro d hm; exact absurd hm (Nat.not_lt_zero _)
    | succ fuelZ ih4 =>
      intro d hm i0 hI HZ locsZ hP hD hS ls hl
      refine lv_iload_n hx hb dX3_readNumber_4 rfl (lv_at hl 0 rfl) ?_
      refine lv_iload_n hx hb dX3_readNumber_5 rfl (lv_at hl 3 rfl) ?_
      refine z_icmp_ge (a := d) (b := k) (tgt := 68) hx hb dX3_readNumber_6 (by decide) (by omega) (by omega) (fun c2 => ?_) (fun c2 => ?_)
      · -- 6 t
        have hnd : nD Ch len pl k = d := nD_st hI i0 (by omega)
        refine lv_iload_n hx hb dX3_readNumber_68 rfl (lv_at hl 0 rfl) ?_
        refine z_if_ne (a := d) (tgt := 76) hx hb dX3_readNumber_69 (by decide) (by omega) (fun c3 => ?_) (fun c3 => ?_)
        · -- 69 t
          refine lv_iload_n hx hb dX3_readNumber_76 rfl (lv_at hl 1 rfl) ?_
          have e4 : nI (pl + d) = nI (pl + nD Ch len pl k) := by first | rfl | (rw [hnd])
          have hP : va_P E.1 vwCl [(sc, .inr (3, [.int (nI len), .ref ch, .int st, .int fr, .int fo, .int ti, .int (nI (pl + nD Ch len pl k)), .int to, .int (nI fp)])), (ch, .inl (E.2.2.1, 80, .inl (fun zz => nI (Ch zz))))] HZ := Eq.subst (motive := fun XX : Int32 => va_P E.1 vwCl [(sc, .inr (3, [.int (nI len), .ref ch, .int st, .int fr, .int fo, .int ti, .int XX, .int to, .int (nI fp)])), (ch, .inl (E.2.2.1, 80, .inl (fun zz => nI (Ch zz))))] HZ) e4 hP
          have hD : va_D AZ [(sc, .inr (3, [.int (nI len), .ref ch, .int st, .int fr, .int fo, .int ti, .int (nI (pl + nD Ch len pl k)), .int to, .int (nI fp)])), (ch, .inl (E.2.2.1, 80, .inl (fun zz => nI (Ch zz))))] := Eq.subst (motive := fun XX : Int32 => va_D AZ [(sc, .inr (3, [.int (nI len), .ref ch, .int st, .int fr, .int fo, .int ti, .int XX, .int to, .int (nI fp)])), (ch, .inl (E.2.2.1, 80, .inl (fun zz => nI (Ch zz))))]) e4 hD
          exact hret _ _ _ _ _ _ hP hS dX3_readNumber_77 rfl ⟨by unfold rdR; rw [hnd]; first | rw [if_pos (by omega)] | rw [if_neg (by omega)], rfl⟩
        · -- 69 f
          refine lv_iconst (v := (-1)) hx hb dX3_readNumber_72 (by decide) ?_
          refine lv_goto (tgt := 77) hx hb dX3_readNumber_73 (by decide) ?_
          have e5 : nI (pl + d) = nI (pl + nD Ch len pl k) := by first | rfl | (rw [hnd])
          have hP : va_P E.1 vwCl [(sc, .inr (3, [.int (nI len), .ref ch, .int st, .int fr, .int fo, .int ti, .int (nI (pl + nD Ch len pl k)), .int to, .int (nI fp)])), (ch, .inl (E.2.2.1, 80, .inl (fun zz => nI (Ch zz))))] HZ := Eq.subst (motive := fun XX : Int32 => va_P E.1 vwCl [(sc, .inr (3, [.int (nI len), .ref ch, .int st, .int fr, .int fo, .int ti, .int XX, .int to, .int (nI fp)])), (ch, .inl (E.2.2.1, 80, .inl (fun zz => nI (Ch zz))))] HZ) e5 hP
          have hD : va_D AZ [(sc, .inr (3, [.int (nI len), .ref ch, .int st, .int fr, .int fo, .int ti, .int (nI (pl + nD Ch len pl k)), .int to, .int (nI fp)])), (ch, .inl (E.2.2.1, 80, .inl (fun zz => nI (Ch zz))))] := Eq.subst (motive := fun XX : Int32 => va_D AZ [(sc, .inr (3, [.int (nI len), .ref ch, .int st, .int fr, .int fo, .int ti, .int XX, .int to, .int (nI fp)])), (ch, .inl (E.2.2.1, 80, .inl (fun zz => nI (Ch zz))))]) e5 hD
          exact hret _ _ _ _ _ _ hP hS dX3_readNumber_77 rfl ⟨by unfold rdR; rw [hnd]; first | rw [if_pos (by omega)] | rw [if_neg (by omega)], rfl⟩
      · -- 6 f
        refine lv_aload_n hx hb dX3_readNumber_9 rfl (lv_at hl 2 rfl) ?_
        refine lv_aload_n hx hb dX3_readNumber_10 rfl (lv_at hl 2 rfl) ?_
        refine va_get (D := E.1) (ci := 3) (v := .int (nI (pl + d))) (C := RX3) (T := TX3) (N := 9) hx hb hts iwX3_readNumber_X3_c_X3_readNumber hown hG.1 hP 0 rfl rfl 6 (by decide) (hts (.fieldLink RX3 29 "FrettedStrings$Score" "place" "I") (by decide +kernel)) (fun _ h9 => h9) rfl dX3_readNumber_11 ?_
        have hPc := zP_sub (w := [(sc, .inr (3, [.int (nI len), .ref ch, .int st, .int fr, .int fo, .int ti, .int (nI (pl + d)), .int to, .int (nI fp)])), (ch, .inl (E.2.2.1, 80, .inl (fun zz => nI (Ch zz))))]) hP [0, 1] rfl
        refine z_rd (fun _ h => h) (va_runV (As := [.int (nI (pl + d))]) (rest := []) hF (c_X3_signAt l E sc ch len (pl + d) fp (pl + d) st fr fo ti to Ch (hCh) (hlen) (by omega)) (cwV 1 hts gX3_readNumber_X3_signAt rfl rfl rfl (by decide +kernel) ⟨Nat.le_of_ble_eq_true rfl, Nat.le_of_ble_eq_true rfl⟩) (z_preRV (va_recv hG.1 hP (ci := 3) (q0 := 0) rfl rfl) hPc hG) rfl rfl hl.1 rfl (lv_room (Nat.le_of_ble_eq_true rfl)) dX3_readNumber_14 ⟨Nat.zero_le _, Nat.zero_le _⟩) (fun r6 hr6 => ?_)
        subst hr6
        have hsg := sgn_le (i := pl + d) hCh hlen
        refine lv_bipush (v := nI 48) hx hb dX3_readNumber_17 (by decide) ?_
        refine z_icmp_lt (a := sgn Ch len (pl + d)) (b := 48) (tgt := 68) hx hb dX3_readNumber_19 (by decide) (by omega) (by omega) (fun c7 => ?_) (fun c7 => ?_)
        · -- 19 t
          have hnd : nD Ch len pl k = d := nD_st hI i0 (by omega)
          refine lv_iload_n hx hb dX3_readNumber_68 rfl (lv_at hl 0 rfl) ?_
          refine z_if_ne (a := d) (tgt := 76) hx hb dX3_readNumber_69 (by decide) (by omega) (fun c8 => ?_) (fun c8 => ?_)
          · -- 69 t
            refine lv_iload_n hx hb dX3_readNumber_76 rfl (lv_at hl 1 rfl) ?_
            have e9 : nI (pl + d) = nI (pl + nD Ch len pl k) := by first | rfl | (rw [hnd])
            have hP : va_P E.1 vwCl [(sc, .inr (3, [.int (nI len), .ref ch, .int st, .int fr, .int fo, .int ti, .int (nI (pl + nD Ch len pl k)), .int to, .int (nI fp)])), (ch, .inl (E.2.2.1, 80, .inl (fun zz => nI (Ch zz))))] HZ := Eq.subst (motive := fun XX : Int32 => va_P E.1 vwCl [(sc, .inr (3, [.int (nI len), .ref ch, .int st, .int fr, .int fo, .int ti, .int XX, .int to, .int (nI fp)])), (ch, .inl (E.2.2.1, 80, .inl (fun zz => nI (Ch zz))))] HZ) e9 hP
            have hD : va_D AZ [(sc, .inr (3, [.int (nI len), .ref ch, .int st, .int fr, .int fo, .int ti, .int (nI (pl + nD Ch len pl k)), .int to, .int (nI fp)])), (ch, .inl (E.2.2.1, 80, .inl (fun zz => nI (Ch zz))))] := Eq.subst (motive := fun XX : Int32 => va_D AZ [(sc, .inr (3, [.int (nI len), .ref ch, .int st, .int fr, .int fo, .int ti, .int XX, .int to, .int (nI fp)])), (ch, .inl (E.2.2.1, 80, .inl (fun zz => nI (Ch zz))))]) e9 hD
            exact hret _ _ _ _ _ _ hP hS dX3_readNumber_77 rfl ⟨by unfold rdR; rw [hnd]; first | rw [if_pos (by omega)] | rw [if_neg (by omega)], rfl⟩
          · -- 69 f
            refine lv_iconst (v := (-1)) hx hb dX3_readNumber_72 (by decide) ?_
            refine lv_goto (tgt := 77) hx hb dX3_readNumber_73 (by decide) ?_
            have e10 : nI (pl + d) = nI (pl + nD Ch len pl k) := by first | rfl | (rw [hnd])
            have hP : va_P E.1 vwCl [(sc, .inr (3, [.int (nI len), .ref ch, .int st, .int fr, .int fo, .int ti, .int (nI (pl + nD Ch len pl k)), .int to, .int (nI fp)])), (ch, .inl (E.2.2.1, 80, .inl (fun zz => nI (Ch zz))))] HZ := Eq.subst (motive := fun XX : Int32 => va_P E.1 vwCl [(sc, .inr (3, [.int (nI len), .ref ch, .int st, .int fr, .int fo, .int ti, .int XX, .int to, .int (nI fp)])), (ch, .inl (E.2.2.1, 80, .inl (fun zz => nI (Ch zz))))] HZ) e10 hP
            have hD : va_D AZ [(sc, .inr (3, [.int (nI len), .ref ch, .int st, .int fr, .int fo, .int ti, .int (nI (pl + nD Ch len pl k)), .int to, .int (nI fp)])), (ch, .inl (E.2.2.1, 80, .inl (fun zz => nI (Ch zz))))] := Eq.subst (motive := fun XX : Int32 => va_D AZ [(sc, .inr (3, [.int (nI len), .ref ch, .int st, .int fr, .int fo, .int ti, .int XX, .int to, .int (nI fp)])), (ch, .inl (E.2.2.1, 80, .inl (fun zz => nI (Ch zz))))]) e10 hD
            exact hret _ _ _ _ _ _ hP hS dX3_readNumber_77 rfl ⟨by unfold rdR; rw [hnd]; first | rw [if_pos (by omega)] | rw [if_neg (by omega)], rfl⟩
        · -- 19 f
          refine lv_aload_n hx hb dX3_readNumber_22 rfl (lv_at hl 2 rfl) ?_
          refine lv_aload_n hx hb dX3_readNumber_23 rfl (lv_at hl 2 rfl) ?_
          refine va_get (D := E.1) (ci := 3) (v := .int (nI (pl + d))) (C := RX3) (T := TX3) (N := 9) hx hb hts iwX3_readNumber_X3_c_X3_readNumber hown hG.1 hP 0 rfl rfl 6 (by decide) (hts (.fieldLink RX3 29 "FrettedStrings$Score" "place" "I") (by decide +kernel)) (fun _ h9 => h9) rfl dX3_readNumber_24 ?_
          have hPc := zP_sub (w := [(sc, .inr (3, [.int (nI len), .ref ch, .int st, .int fr, .int fo, .int ti, .int (nI (pl + d)), .int to, .int (nI fp)])), (ch, .inl (E.2.2.1, 80, .inl (fun zz => nI (Ch zz))))]) hP [0, 1] rfl
          refine z_rd (fun _ h => h) (va_runV (As := [.int (nI (pl + d))]) (rest := []) hF (c_X3_signAt l E sc ch len (pl + d) fp (pl + d) st fr fo ti to Ch (hCh) (hlen) (by omega)) (cwV 1 hts gX3_readNumber_X3_signAt rfl rfl rfl (by decide +kernel) ⟨Nat.le_of_ble_eq_true rfl, Nat.le_of_ble_eq_true rfl⟩) (z_preRV (va_recv hG.1 hP (ci := 3) (q0 := 0) rfl rfl) hPc hG) rfl rfl hl.1 rfl (lv_room (Nat.le_of_ble_eq_true rfl)) dX3_readNumber_27 ⟨Nat.zero_le _, Nat.zero_le _⟩) (fun r11 hr11 => ?_)
          subst hr11
          refine lv_bipush (v := nI 57) hx hb dX3_readNumber_30 (by decide) ?_
          refine z_icmp_gt (a := sgn Ch len (pl + d)) (b := 57) (tgt := 68) hx hb dX3_readNumber_32 (by decide) (by omega) (by omega) (fun c12 => ?_) (fun c12 => ?_)
          · -- 32 t
            have hnd : nD Ch len pl k = d := nD_st hI i0 (by omega)
            refine lv_iload_n hx hb dX3_readNumber_68 rfl (lv_at hl 0 rfl) ?_
            refine z_if_ne (a := d) (tgt := 76) hx hb dX3_readNumber_69 (by decide) (by omega) (fun c13 => ?_) (fun c13 => ?_)
            · -- 69 t
              refine lv_iload_n hx hb dX3_readNumber_76 rfl (lv_at hl 1 rfl) ?_
              have e14 : nI (pl + d) = nI (pl + nD Ch len pl k) := by first | rfl | (rw [hnd])
              have hP : va_P E.1 vwCl [(sc, .inr (3, [.int (nI len), .ref ch, .int st, .int fr, .int fo, .int ti, .int (nI (pl + nD Ch len pl k)), .int to, .int (nI fp)])), (ch, .inl (E.2.2.1, 80, .inl (fun zz => nI (Ch zz))))] HZ := Eq.subst (motive := fun XX : Int32 => va_P E.1 vwCl [(sc, .inr (3, [.int (nI len), .ref ch, .int st, .int fr, .int fo, .int ti, .int XX, .int to, .int (nI fp)])), (ch, .inl (E.2.2.1, 80, .inl (fun zz => nI (Ch zz))))] HZ) e14 hP
              have hD : va_D AZ [(sc, .inr (3, [.int (nI len), .ref ch, .int st, .int fr, .int fo, .int ti, .int (nI (pl + nD Ch len pl k)), .int to, .int (nI fp)])), (ch, .inl (E.2.2.1, 80, .inl (fun zz => nI (Ch zz))))] := Eq.subst (motive := fun XX : Int32 => va_D AZ [(sc, .inr (3, [.int (nI len), .ref ch, .int st, .int fr, .int fo, .int ti, .int XX, .int to, .int (nI fp)])), (ch, .inl (E.2.2.1, 80, .inl (fun zz => nI (Ch zz))))]) e14 hD
              exact hret _ _ _ _ _ _ hP hS dX3_readNumber_77 rfl ⟨by unfold rdR; rw [hnd]; first | rw [if_pos (by omega)] | rw [if_neg (by omega)], rfl⟩
            · -- 69 f
              refine lv_iconst (v := (-1)) hx hb dX3_readNumber_72 (by decide) ?_
              refine lv_goto (tgt := 77) hx hb dX3_readNumber_73 (by decide) ?_
              have e15 : nI (pl + d) = nI (pl + nD Ch len pl k) := by first | rfl | (rw [hnd])
              have hP : va_P E.1 vwCl [(sc, .inr (3, [.int (nI len), .ref ch, .int st, .int fr, .int fo, .int ti, .int (nI (pl + nD Ch len pl k)), .int to, .int (nI fp)])), (ch, .inl (E.2.2.1, 80, .inl (fun zz => nI (Ch zz))))] HZ := Eq.subst (motive := fun XX : Int32 => va_P E.1 vwCl [(sc, .inr (3, [.int (nI len), .ref ch, .int st, .int fr, .int fo, .int ti, .int XX, .int to, .int (nI fp)])), (ch, .inl (E.2.2.1, 80, .inl (fun zz => nI (Ch zz))))] HZ) e15 hP
              have hD : va_D AZ [(sc, .inr (3, [.int (nI len), .ref ch, .int st, .int fr, .int fo, .int ti, .int (nI (pl + nD Ch len pl k)), .int to, .int (nI fp)])), (ch, .inl (E.2.2.1, 80, .inl (fun zz => nI (Ch zz))))] := Eq.subst (motive := fun XX : Int32 => va_D AZ [(sc, .inr (3, [.int (nI len), .ref ch, .int st, .int fr, .int fo, .int ti, .int XX, .int to, .int (nI fp)])), (ch, .inl (E.2.2.1, 80, .inl (fun zz => nI (Ch zz))))]) e15 hD
              exact hret _ _ _ _ _ _ hP hS dX3_readNumber_77 rfl ⟨by unfold rdR; rw [hnd]; first | rw [if_pos (by omega)] | rw [if_neg (by omega)], rfl⟩
          · -- 32 f
            refine lv_iload_n hx hb dX3_readNumber_35 rfl (lv_at hl 1 rfl) ?_
            refine lv_bipush (v := nI 10) hx hb dX3_readNumber_36 (by decide) ?_
            refine z_imul (a := rdV Ch pl d) (b := 10) hx hb dX3_readNumber_38 ?_
            refine lv_aload_n hx hb dX3_readNumber_39 rfl (lv_at hl 2 rfl) ?_
            refine lv_aload_n hx hb dX3_readNumber_40 rfl (lv_at hl 2 rfl) ?_
            refine va_get (D := E.1) (ci := 3) (v := .int (nI (pl + d))) (C := RX3) (T := TX3) (N := 9) hx hb hts iwX3_readNumber_X3_c_X3_readNumber hown hG.1 hP 0 rfl rfl 6 (by decide) (hts (.fieldLink RX3 29 "FrettedStrings$Score" "place" "I") (by decide +kernel)) (fun _ h9 => h9) rfl dX3_readNumber_41 ?_
            have hPc := zP_sub (w := [(sc, .inr (3, [.int (nI len), .ref ch, .int st, .int fr, .int fo, .int ti, .int (nI (pl + d)), .int to, .int (nI fp)])), (ch, .inl (E.2.2.1, 80, .inl (fun zz => nI (Ch zz))))]) hP [0, 1] rfl
            refine z_rd (fun _ h => h) (va_runV (As := [.int (nI (pl + d))]) (rest := [.int (nI ((rdV Ch pl d) * 10))]) hF (c_X3_signAt l E sc ch len (pl + d) fp (pl + d) st fr fo ti to Ch (hCh) (hlen) (by omega)) (cwV 1 hts gX3_readNumber_X3_signAt rfl rfl rfl (by decide +kernel) ⟨Nat.le_of_ble_eq_true rfl, Nat.le_of_ble_eq_true rfl⟩) (z_preRV (va_recv hG.1 hP (ci := 3) (q0 := 0) rfl rfl) hPc hG) rfl rfl hl.1 rfl (lv_room (Nat.le_of_ble_eq_true rfl)) dX3_readNumber_44 ⟨Nat.zero_le _, Nat.zero_le _⟩) (fun r16 hr16 => ?_)
            subst hr16
            refine lv_bipush (v := nI 48) hx hb dX3_readNumber_47 (by decide) ?_
            refine z_isub (a := sgn Ch len (pl + d)) (b := 48) hx hb dX3_readNumber_49 (by omega) ?_
            refine z_iadd (a := (rdV Ch pl d) * 10) (b := (sgn Ch len (pl + d)) - 48) hx hb dX3_readNumber_50 ?_
            refine lv_istore_n (lv' := [(2, .int (nI (((rdV Ch pl d) * 10) + ((sgn Ch len (pl + d)) - 48)))), (3, .int (nI d)), (0, .ref sc), (1, .int (nI k))]) hx hb dX3_readNumber_51 rfl hl (by decide) rfl (fun ls hl => ?_)
            refine lv_aload_n hx hb dX3_readNumber_52 rfl (lv_at hl 2 rfl) ?_
            refine lv_dup hx hb dX3_readNumber_53 rfl ?_
            refine va_get (D := E.1) (ci := 3) (v := .int (nI (pl + d))) (C := RX3) (T := TX3) (N := 9) hx hb hts iwX3_readNumber_X3_c_X3_readNumber hown hG.1 hP 0 rfl rfl 6 (by decide) (hts (.fieldLink RX3 29 "FrettedStrings$Score" "place" "I") (by decide +kernel)) (fun _ h9 => h9) rfl dX3_readNumber_54 ?_
            refine lv_iconst (v := nI 1) hx hb dX3_readNumber_57 (by decide) ?_
            refine z_iadd (a := pl + d) (b := 1) hx hb dX3_readNumber_58 ?_
            refine va_put (D := E.1) (ci := 3) (v := .int (nI ((pl + d) + 1))) (ty := .int) (C := RX3) (T := TX3) (N := 9) hx hb hts iwX3_readNumber_X3_c_X3_readNumber tyX3 tyX3_ok nmX3 hown hG.1 hP hD hS 0 rfl rfl 6 (by decide) (hts (.fieldLink RX3 29 "FrettedStrings$Score" "place" "I") (by decide +kernel)) (fun _ h9 => h9) rfl (by decide +kernel) rfl rfl (Nat.le_of_ble_eq_true rfl) dX3_readNumber_59 (fun HZ locsZ hP hD hS => ?_)
            have hP : va_P E.1 vwCl [(sc, .inr (3, [.int (nI len), .ref ch, .int st, .int fr, .int fo, .int ti, .int (nI ((pl + d) + 1)), .int to, .int (nI fp)])), (ch, .inl (E.2.2.1, 80, .inl (fun zz => nI (Ch zz))))] _ := hP
            have hD : va_D AZ [(sc, .inr (3, [.int (nI len), .ref ch, .int st, .int fr, .int fo, .int ti, .int (nI ((pl + d) + 1)), .int to, .int (nI fp)])), (ch, .inl (E.2.2.1, 80, .inl (fun zz => nI (Ch zz))))] := hD
            refine z_iinc (k := 1) (d := 1) (lv' := [(3, .int (nI (d + 1))), (2, .int (nI (((rdV Ch pl d) * 10) + ((sgn Ch len (pl + d)) - 48)))), (0, .ref sc), (1, .int (nI k))]) hx hb dX3_readNumber_62 (by decide) hl rfl (by decide) rfl (fun ls hl => ?_)
            refine lv_goto (tgt := 4) hx hb dX3_readNumber_65 (by decide) ?_
            have e17 : nI ((pl + d) + 1) = nI (pl + (d + 1)) := by first | rfl | (rfl)
            have hP : va_P E.1 vwCl [(sc, .inr (3, [.int (nI len), .ref ch, .int st, .int fr, .int fo, .int ti, .int (nI (pl + (d + 1))), .int to, .int (nI fp)])), (ch, .inl (E.2.2.1, 80, .inl (fun zz => nI (Ch zz))))] HZ := Eq.subst (motive := fun XX : Int32 => va_P E.1 vwCl [(sc, .inr (3, [.int (nI len), .ref ch, .int st, .int fr, .int fo, .int ti, .int XX, .int to, .int (nI fp)])), (ch, .inl (E.2.2.1, 80, .inl (fun zz => nI (Ch zz))))] HZ) e17 hP
            have hD : va_D AZ [(sc, .inr (3, [.int (nI len), .ref ch, .int st, .int fr, .int fo, .int ti, .int (nI (pl + (d + 1))), .int to, .int (nI fp)])), (ch, .inl (E.2.2.1, 80, .inl (fun zz => nI (Ch zz))))] := Eq.subst (motive := fun XX : Int32 => va_D AZ [(sc, .inr (3, [.int (nI len), .ref ch, .int st, .int fr, .int fo, .int ti, .int XX, .int to, .int (nI fp)])), (ch, .inl (E.2.2.1, 80, .inl (fun zz => nI (Ch zz))))]) e17 hD
            have e18 : nI (((rdV Ch pl d) * 10) + ((sgn Ch len (pl + d)) - 48)) = nI (rdV Ch pl (d + 1)) := by simp only [rdV]; rw [(sgn_dig (by assumption)).1, Nat.mul_comm]
            have hl : lv_has ls 4 [(3, .int (nI (d + 1))), (2, .int (nI (rdV Ch pl (d + 1)))), (0, .ref sc), (1, .int (nI k))] := Eq.subst (motive := fun XX : Int32 => lv_has ls 4 [(3, .int (nI (d + 1))), (2, .int XX), (0, .ref sc), (1, .int (nI k))]) e18 hl
            exact ih4 (d + 1) (by omega) (by omega) (nD_go hI (by omega) (by assumption) (by assumption)) _ _ hP hD hS _ (lv_sub hl [0, 1, 2, 3] rfl)
  have e19 : nI pl = nI (pl + 0) := by first | rfl | (rfl)
  have hP : va_P E.1 vwCl [(sc, .inr (3, [.int (nI len), .ref ch, .int st, .int fr, .int fo, .int ti, .int (nI (pl + 0)), .int to, .int (nI fp)])), (ch, .inl (E.2.2.1, 80, .inl (fun zz => nI (Ch zz))))] HZ := Eq.subst (motive := fun XX : Int32 => va_P E.1 vwCl [(sc, .inr (3, [.int (nI len), .ref ch, .int st, .int fr, .int fo, .int ti, .int XX, .int to, .int (nI fp)])), (ch, .inl (E.2.2.1, 80, .inl (fun zz => nI (Ch zz))))] HZ) e19 hP
  have hD : va_D AZ [(sc, .inr (3, [.int (nI len), .ref ch, .int st, .int fr, .int fo, .int ti, .int (nI (pl + 0)), .int to, .int (nI fp)])), (ch, .inl (E.2.2.1, 80, .inl (fun zz => nI (Ch zz))))] := Eq.subst (motive := fun XX : Int32 => va_D AZ [(sc, .inr (3, [.int (nI len), .ref ch, .int st, .int fr, .int fo, .int ti, .int XX, .int to, .int (nI fp)])), (ch, .inl (E.2.2.1, 80, .inl (fun zz => nI (Ch zz))))]) e19 hD
  have e20 : nI 0 = nI (rdV Ch pl 0) := by rfl
  have hl : lv_has ls 4 [(3, .int (nI 0)), (2, .int (nI (rdV Ch pl 0))), (0, .ref sc), (1, .int (nI k))] := Eq.subst (motive := fun XX : Int32 => lv_has ls 4 [(3, .int (nI 0)), (2, .int XX), (0, .ref sc), (1, .int (nI k))]) e20 hl
  exact L4_1 ((k - 0) + 1) 0 (Nat.lt_succ_self _) (by omega) (by rw [Nat.zero_add, Nat.add_zero, Nat.sub_zero]) _ _ hP hD hS _ (lv_sub hl [0, 1, 2, 3] rfl)
theorem iwX3_readNote_X3_c_X3_readNote : ∀ w ∈ wsX30, w ∈ wsX3_readNote := by decide +kernel
set_option maxHeartbeats 1000000 in
set_option maxRecDepth 100000 in
theorem c_X3_readNote (l : Launch) (E : zE) (sc ch len pl fp p : Nat) (st fr fo ti to : Int32) (Ch : Nat → Nat) (hCh : ∀ i, i < 80 → Ch i ≤ 126) (hlen : len ≤ 80) (hp : p ≤ 80) : zM l yX3_readNote wsX3_readNote ({ frames := 2, cells := 0, slots := 0, locals := 44 }) E [.ref sc, .int (nI p)] [(sc, .inr (3, [.int (nI len), .ref ch, .int st, .int fr, .int fo, .int ti, .int (nI pl), .int to, .int (nI fp)])), (ch, .inl (E.2.2.1, 80, .inl (fun zz => nI (Ch zz))))] (fun r w' => (r = nI 1 ∧ (okN Ch len p) ∧ w' = [(sc, .inr (3, [.int (nI len), .ref ch, .int (nI (a0 Ch len p)), .int (nI (fV Ch len p)), .int (nI (qV Ch len p)), .int (nI (tV Ch len p)), .int (nI (e3 Ch len p + 1)), .int (told Ch len p), .int (nI fp)])), (ch, .inl (E.2.2.1, 80, .inl (fun zz => nI (Ch zz))))]) ∨ (∃ (st9 : Int32) (fr9 : Int32) (fo9 : Int32) (ti9 : Int32) (pl9 : Nat) (to9 : Int32), r = nI 0 ∧ (¬ okN Ch len p) ∧ w' = [(sc, .inr (3, [.int (nI len), .ref ch, .int st9, .int fr9, .int fo9, .int ti9, .int (nI pl9), .int to9, .int (nI fp)])), (ch, .inl (E.2.2.1, 80, .inl (fun zz => nI (Ch zz))))])) := by
  refine zM.start (own := RX3) rfl (by decide +kernel) rfl (Nat.le_of_ble_eq_true rfl) (z_narM6) ?_
  intro pZ eZ sZ mZ argsZ belowZ methZ cZ QZ AZ hF hret HZ locsZ hP hD hS hG ls hl
  obtain ⟨hx, hb, hml, hown, hts⟩ := id hF
  have hl : lv_has ls 2 [(0, .ref sc), (1, .int (nI p))] := hl
  have hn1 := nD_le Ch len 1 p
  have hn2 := nD_le Ch len 2 (e0 Ch len p + 1)
  have hee0 : e0 Ch len p = p + nD Ch len p 1 := rfl
  have hn3 := nD_le Ch len 4 (e1 Ch len p + 1)
  have hee1 : e1 Ch len p = e0 Ch len p + 1 + nD Ch len (e0 Ch len p + 1) 2 := rfl
  have hee2 : e2 Ch len p = e1 Ch len p + 1 + nD Ch len (e1 Ch len p + 1) 4 := rfl
  have hn4 := nD_le Ch len 3 (e2 Ch len p + 1)
  refine lv_aload_n hx hb dX3_readNote_0 rfl (lv_at hl 0 rfl) ?_
  refine lv_iload_n hx hb dX3_readNote_1 rfl (lv_at hl 1 rfl) ?_
  refine va_put (D := E.1) (ci := 3) (v := .int (nI p)) (ty := .int) (C := RX3) (T := TX3) (N := 9) hx hb hts iwX3_readNote_X3_c_X3_readNote tyX3 tyX3_ok nmX3 hown hG.1 hP hD hS 0 rfl rfl 6 (by decide) (hts (.fieldLink RX3 29 "FrettedStrings$Score" "place" "I") (by decide +kernel)) (fun _ h9 => h9) rfl (by decide +kernel) rfl rfl (Nat.le_of_ble_eq_true rfl) dX3_readNote_2 (fun HZ locsZ hP hD hS => ?_)
  have hP : va_P E.1 vwCl [(sc, .inr (3, [.int (nI len), .ref ch, .int st, .int fr, .int fo, .int ti, .int (nI p), .int to, .int (nI fp)])), (ch, .inl (E.2.2.1, 80, .inl (fun zz => nI (Ch zz))))] _ := hP
  have hD : va_D AZ [(sc, .inr (3, [.int (nI len), .ref ch, .int st, .int fr, .int fo, .int ti, .int (nI p), .int to, .int (nI fp)])), (ch, .inl (E.2.2.1, 80, .inl (fun zz => nI (Ch zz))))] := hD
  refine lv_aload_n hx hb dX3_readNote_5 rfl (lv_at hl 0 rfl) ?_
  refine lv_aload_n hx hb dX3_readNote_6 rfl (lv_at hl 0 rfl) ?_
  refine lv_iconst (v := nI 1) hx hb dX3_readNote_7 (by decide) ?_
  have hPc := zP_sub (w := [(sc, .inr (3, [.int (nI len), .ref ch, .int st, .int fr, .int fo, .int ti, .int (nI p), .int to, .int (nI fp)])), (ch, .inl (E.2.2.1, 80, .inl (fun zz => nI (Ch zz))))]) hP [0, 1] rfl
  have hDc := zD_sub (w := [(sc, .inr (3, [.int (nI len), .ref ch, .int st, .int fr, .int fo, .int ti, .int (nI p), .int to, .int (nI fp)])), (ch, .inl (E.2.2.1, 80, .inl (fun zz => nI (Ch zz))))]) hD [0, 1] (by decide) rfl
  refine z_md [0, 1] (va_runV (As := [.int (nI 1)]) (rest := [.ref sc]) hF (c_X3_readNumber l E sc ch len p fp 1 st fr fo ti to Ch (hCh) (hlen) (by omega) (by omega)) (cwV 1 hts gX3_readNote_X3_readNumber rfl rfl rfl (by decide +kernel) ⟨Nat.le_of_ble_eq_true rfl, Nat.le_of_ble_eq_true rfl⟩) (z_preMV (va_recv hG.1 hP (ci := 3) (q0 := 0) rfl rfl) hPc hDc hG) rfl rfl hl.1 rfl (lv_room (Nat.le_of_ble_eq_true rfl)) dX3_readNote_8 ⟨Nat.zero_le _, Nat.zero_le _⟩) hP hD hS rfl (fun r1 w' HZ locsZ hr1 hP hD hS => ?_)
  obtain ⟨rfl, rfl⟩ := hr1
  have hP : va_P E.1 vwCl [(sc, .inr (3, [.int (nI len), .ref ch, .int st, .int fr, .int fo, .int ti, .int (nI (p + nD Ch len p 1)), .int to, .int (nI fp)])), (ch, .inl (E.2.2.1, 80, .inl (fun zz => nI (Ch zz))))] _ := hP
  have hD : va_D AZ [(sc, .inr (3, [.int (nI len), .ref ch, .int st, .int fr, .int fo, .int ti, .int (nI (p + nD Ch len p 1)), .int to, .int (nI fp)])), (ch, .inl (E.2.2.1, 80, .inl (fun zz => nI (Ch zz))))] := hD
  have hP : va_P E.1 vwCl [(sc, .inr (3, [.int (nI len), .ref ch, .int st, .int fr, .int fo, .int ti, .int (nI (e0 Ch len p)), .int to, .int (nI fp)])), (ch, .inl (E.2.2.1, 80, .inl (fun zz => nI (Ch zz))))] _ := hP
  have hD : va_D AZ [(sc, .inr (3, [.int (nI len), .ref ch, .int st, .int fr, .int fo, .int ti, .int (nI (e0 Ch len p)), .int to, .int (nI fp)])), (ch, .inl (E.2.2.1, 80, .inl (fun zz => nI (Ch zz))))] := hD
  refine va_put (D := E.1) (ci := 3) (v := .int (rdR Ch len p 1)) (ty := .int) (C := RX3) (T := TX3) (N := 9) hx hb hts iwX3_readNote_X3_c_X3_readNote tyX3 tyX3_ok nmX3 hown hG.1 hP hD hS 0 rfl rfl 2 (by decide) (hts (.fieldLink RX3 55 "FrettedStrings$Score" "string" "I") (by decide +kernel)) (fun _ h9 => h9) rfl (by decide +kernel) rfl rfl (Nat.le_of_ble_eq_true rfl) dX3_readNote_11 (fun HZ locsZ hP hD hS => ?_)
  have hP : va_P E.1 vwCl [(sc, .inr (3, [.int (nI len), .ref ch, .int (rdR Ch len p 1), .int fr, .int fo, .int ti, .int (nI (e0 Ch len p)), .int to, .int (nI fp)])), (ch, .inl (E.2.2.1, 80, .inl (fun zz => nI (Ch zz))))] _ := hP
  have hD : va_D AZ [(sc, .inr (3, [.int (nI len), .ref ch, .int (rdR Ch len p 1), .int fr, .int fo, .int ti, .int (nI (e0 Ch len p)), .int to, .int (nI fp)])), (ch, .inl (E.2.2.1, 80, .inl (fun zz => nI (Ch zz))))] := hD
  refine lv_aload_n hx hb dX3_readNote_14 rfl (lv_at hl 0 rfl) ?_
  refine va_get (D := E.1) (ci := 3) (v := .int (rdR Ch len p 1)) (C := RX3) (T := TX3) (N := 9) hx hb hts iwX3_readNote_X3_c_X3_readNote hown hG.1 hP 0 rfl rfl 2 (by decide) (hts (.fieldLink RX3 55 "FrettedStrings$Score" "string" "I") (by decide +kernel)) (fun _ h9 => h9) rfl dX3_readNote_15 ?_
  refine z_rd (fun _ h => h) (va_runSN (As := [.int (rdR Ch len p 1)]) (rest := []) hF (c_X6_isString l E (rdR Ch len p 1) ) ⟨va_cnB (host := RX6) 1 hts gX3_readNote_X6_isString_n58 rfl rfl rfl (hG.2 _ (List.mem_of_getElem? (i := 9) rfl)) (hts (.initialized RX6) (by decide +kernel)) (by decide +kernel) ⟨Nat.le_of_ble_eq_true rfl, Nat.le_of_ble_eq_true rfl⟩, hts (.static yX6_isString) (by decide +kernel), trivial⟩ (z_preR (fun k q h => by simp at h) hG) rfl rfl hl.1 rfl (lv_room (Nat.le_of_ble_eq_true rfl)) dX3_readNote_18 ⟨Nat.zero_le _, Nat.zero_le _⟩) (fun r2 hr2 => ?_)
  rcases hr2 with ⟨rfl, c3⟩ | ⟨rfl, c3⟩
  · -- 18 t
    obtain ⟨k1, k2⟩ := (rd_str hCh hlen).mp c3
    refine lv_if_eq (tgt := 33) hx hb dX3_readNote_21 (by decide) (fun c => absurd c (by decide)) (fun _ => ?_)
    refine lv_aload_n hx hb dX3_readNote_24 rfl (lv_at hl 0 rfl) ?_
    refine lv_bipush (v := nI 58) hx hb dX3_readNote_25 (by decide) ?_
    have hPc := zP_sub (w := [(sc, .inr (3, [.int (nI len), .ref ch, .int (rdR Ch len p 1), .int fr, .int fo, .int ti, .int (nI (e0 Ch len p)), .int to, .int (nI fp)])), (ch, .inl (E.2.2.1, 80, .inl (fun zz => nI (Ch zz))))]) hP [0, 1] rfl
    have hDc := zD_sub (w := [(sc, .inr (3, [.int (nI len), .ref ch, .int (rdR Ch len p 1), .int fr, .int fo, .int ti, .int (nI (e0 Ch len p)), .int to, .int (nI fp)])), (ch, .inl (E.2.2.1, 80, .inl (fun zz => nI (Ch zz))))]) hD [0, 1] (by decide) rfl
    refine z_md [0, 1] (va_runV (As := [.int (nI 58)]) (rest := []) hF (c_X3_readSign l E sc ch len (e0 Ch len p) fp 58 (rdR Ch len p 1) fr fo ti to Ch (hCh) (hlen) (by omega) (by omega)) (cwV 1 hts gX3_readNote_X3_readSign rfl rfl rfl (by decide +kernel) ⟨Nat.le_of_ble_eq_true rfl, Nat.le_of_ble_eq_true rfl⟩) (z_preMV (va_recv hG.1 hP (ci := 3) (q0 := 0) rfl rfl) hPc hDc hG) rfl rfl hl.1 rfl (lv_room (Nat.le_of_ble_eq_true rfl)) dX3_readNote_27 ⟨Nat.zero_le _, Nat.zero_le _⟩) hP hD hS rfl (fun r4 w' HZ locsZ hr4 hP hD hS => ?_)
    rcases hr4 with ⟨rfl, c5, rfl⟩ | ⟨rfl, c6, rfl⟩
    · -- 27 case 0
      have hP : va_P E.1 vwCl [(sc, .inr (3, [.int (nI len), .ref ch, .int (rdR Ch len p 1), .int fr, .int fo, .int ti, .int (nI ((e0 Ch len p) + 1)), .int to, .int (nI fp)])), (ch, .inl (E.2.2.1, 80, .inl (fun zz => nI (Ch zz))))] _ := hP
      have hD : va_D AZ [(sc, .inr (3, [.int (nI len), .ref ch, .int (rdR Ch len p 1), .int fr, .int fo, .int ti, .int (nI ((e0 Ch len p) + 1)), .int to, .int (nI fp)])), (ch, .inl (E.2.2.1, 80, .inl (fun zz => nI (Ch zz))))] := hD
      have k3 := c5
      refine lv_if_ne (tgt := 35) hx hb dX3_readNote_30 (by decide) (fun _ => ?_) (fun c => absurd c (by decide))
      refine lv_aload_n hx hb dX3_readNote_35 rfl (lv_at hl 0 rfl) ?_
      refine lv_aload_n hx hb dX3_readNote_36 rfl (lv_at hl 0 rfl) ?_
      refine lv_iconst (v := nI 2) hx hb dX3_readNote_37 (by decide) ?_
      have hPc := zP_sub (w := [(sc, .inr (3, [.int (nI len), .ref ch, .int (rdR Ch len p 1), .int fr, .int fo, .int ti, .int (nI ((e0 Ch len p) + 1)), .int to, .int (nI fp)])), (ch, .inl (E.2.2.1, 80, .inl (fun zz => nI (Ch zz))))]) hP [0, 1] rfl
      have hDc := zD_sub (w := [(sc, .inr (3, [.int (nI len), .ref ch, .int (rdR Ch len p 1), .int fr, .int fo, .int ti, .int (nI ((e0 Ch len p) + 1)), .int to, .int (nI fp)])), (ch, .inl (E.2.2.1, 80, .inl (fun zz => nI (Ch zz))))]) hD [0, 1] (by decide) rfl
      refine z_md [0, 1] (va_runV (As := [.int (nI 2)]) (rest := [.ref sc]) hF (c_X3_readNumber l E sc ch len ((e0 Ch len p) + 1) fp 2 (rdR Ch len p 1) fr fo ti to Ch (hCh) (hlen) (by omega) (by omega)) (cwV 1 hts gX3_readNote_X3_readNumber rfl rfl rfl (by decide +kernel) ⟨Nat.le_of_ble_eq_true rfl, Nat.le_of_ble_eq_true rfl⟩) (z_preMV (va_recv hG.1 hP (ci := 3) (q0 := 0) rfl rfl) hPc hDc hG) rfl rfl hl.1 rfl (lv_room (Nat.le_of_ble_eq_true rfl)) dX3_readNote_38 ⟨Nat.zero_le _, Nat.zero_le _⟩) hP hD hS rfl (fun r7 w' HZ locsZ hr7 hP hD hS => ?_)
      obtain ⟨rfl, rfl⟩ := hr7
      have hP : va_P E.1 vwCl [(sc, .inr (3, [.int (nI len), .ref ch, .int (rdR Ch len p 1), .int fr, .int fo, .int ti, .int (nI (((e0 Ch len p) + 1) + nD Ch len ((e0 Ch len p) + 1) 2)), .int to, .int (nI fp)])), (ch, .inl (E.2.2.1, 80, .inl (fun zz => nI (Ch zz))))] _ := hP
      have hD : va_D AZ [(sc, .inr (3, [.int (nI len), .ref ch, .int (rdR Ch len p 1), .int fr, .int fo, .int ti, .int (nI (((e0 Ch len p) + 1) + nD Ch len ((e0 Ch len p) + 1) 2)), .int to, .int (nI fp)])), (ch, .inl (E.2.2.1, 80, .inl (fun zz => nI (Ch zz))))] := hD
      have hP : va_P E.1 vwCl [(sc, .inr (3, [.int (nI len), .ref ch, .int (rdR Ch len p 1), .int fr, .int fo, .int ti, .int (nI (e1 Ch len p)), .int to, .int (nI fp)])), (ch, .inl (E.2.2.1, 80, .inl (fun zz => nI (Ch zz))))] _ := hP
      have hD : va_D AZ [(sc, .inr (3, [.int (nI len), .ref ch, .int (rdR Ch len p 1), .int fr, .int fo, .int ti, .int (nI (e1 Ch len p)), .int to, .int (nI fp)])), (ch, .inl (E.2.2.1, 80, .inl (fun zz => nI (Ch zz))))] := hD
      refine va_put (D := E.1) (ci := 3) (v := .int (rdR Ch len ((e0 Ch len p) + 1) 2)) (ty := .int) (C := RX3) (T := TX3) (N := 9) hx hb hts iwX3_readNote_X3_c_X3_readNote tyX3 tyX3_ok nmX3 hown hG.1 hP hD hS 0 rfl rfl 3 (by decide) (hts (.fieldLink RX3 36 "FrettedStrings$Score" "fret" "I") (by decide +kernel)) (fun _ h9 => h9) rfl (by decide +kernel) rfl rfl (Nat.le_of_ble_eq_true rfl) dX3_readNote_41 (fun HZ locsZ hP hD hS => ?_)
      have hP : va_P E.1 vwCl [(sc, .inr (3, [.int (nI len), .ref ch, .int (rdR Ch len p 1), .int (rdR Ch len ((e0 Ch len p) + 1) 2), .int fo, .int ti, .int (nI (e1 Ch len p)), .int to, .int (nI fp)])), (ch, .inl (E.2.2.1, 80, .inl (fun zz => nI (Ch zz))))] _ := hP
      have hD : va_D AZ [(sc, .inr (3, [.int (nI len), .ref ch, .int (rdR Ch len p 1), .int (rdR Ch len ((e0 Ch len p) + 1) 2), .int fo, .int ti, .int (nI (e1 Ch len p)), .int to, .int (nI fp)])), (ch, .inl (E.2.2.1, 80, .inl (fun zz => nI (Ch zz))))] := hD
      refine lv_aload_n hx hb dX3_readNote_44 rfl (lv_at hl 0 rfl) ?_
      refine va_get (D := E.1) (ci := 3) (v := .int (rdR Ch len ((e0 Ch len p) + 1) 2)) (C := RX3) (T := TX3) (N := 9) hx hb hts iwX3_readNote_X3_c_X3_readNote hown hG.1 hP 0 rfl rfl 3 (by decide) (hts (.fieldLink RX3 36 "FrettedStrings$Score" "fret" "I") (by decide +kernel)) (fun _ h9 => h9) rfl dX3_readNote_45 ?_
      refine lv_if_lt (tgt := 60) hx hb dX3_readNote_48 (by decide) (fun c8 => ?_) (fun c8 => ?_)
      · -- 48 t
        refine lv_iconst (v := nI 0) hx hb dX3_readNote_60 (by decide) ?_
        exact hret _ _ _ _ _ _ hP hS dX3_readNote_61 rfl (Or.inr (⟨(rdR Ch len p 1), (rdR Ch len ((e0 Ch len p) + 1) 2), fo, ti, (e1 Ch len p), to, rfl, by intro q; first | exact absurd ((rd_str hCh hlen).mpr ⟨q.1, q.2.1⟩) (by assumption) | exact absurd q.2.2.1 (by assumption) | exact q.2.2.2.1 ((rd_neg hCh hlen (by omega)).mp (by assumption)) | exact absurd q.2.2.2.2.1 (by assumption) | exact q.2.2.2.2.2.1 ((rd_neg hCh hlen (by omega)).mp (Int32.not_le.mp (by assumption))), rfl⟩))
      · -- 48 f
        have k4 : nD Ch len (e0 Ch len p + 1) 2 ≠ 0 := fun q => c8 ((rd_neg hCh hlen (by omega)).mpr q)
        refine lv_aload_n hx hb dX3_readNote_51 rfl (lv_at hl 0 rfl) ?_
        refine lv_bipush (v := nI 33) hx hb dX3_readNote_52 (by decide) ?_
        have hPc := zP_sub (w := [(sc, .inr (3, [.int (nI len), .ref ch, .int (rdR Ch len p 1), .int (rdR Ch len ((e0 Ch len p) + 1) 2), .int fo, .int ti, .int (nI (e1 Ch len p)), .int to, .int (nI fp)])), (ch, .inl (E.2.2.1, 80, .inl (fun zz => nI (Ch zz))))]) hP [0, 1] rfl
        have hDc := zD_sub (w := [(sc, .inr (3, [.int (nI len), .ref ch, .int (rdR Ch len p 1), .int (rdR Ch len ((e0 Ch len p) + 1) 2), .int fo, .int ti, .int (nI (e1 Ch len p)), .int to, .int (nI fp)])), (ch, .inl (E.2.2.1, 80, .inl (fun zz => nI (Ch zz))))]) hD [0, 1] (by decide) rfl
        refine z_md [0, 1] (va_runV (As := [.int (nI 33)]) (rest := []) hF (c_X3_readSign l E sc ch len (e1 Ch len p) fp 33 (rdR Ch len p 1) (rdR Ch len ((e0 Ch len p) + 1) 2) fo ti to Ch (hCh) (hlen) (by omega) (by omega)) (cwV 1 hts gX3_readNote_X3_readSign rfl rfl rfl (by decide +kernel) ⟨Nat.le_of_ble_eq_true rfl, Nat.le_of_ble_eq_true rfl⟩) (z_preMV (va_recv hG.1 hP (ci := 3) (q0 := 0) rfl rfl) hPc hDc hG) rfl rfl hl.1 rfl (lv_room (Nat.le_of_ble_eq_true rfl)) dX3_readNote_54 ⟨Nat.zero_le _, Nat.zero_le _⟩) hP hD hS rfl (fun r9 w' HZ locsZ hr9 hP hD hS => ?_)
        rcases hr9 with ⟨rfl, c10, rfl⟩ | ⟨rfl, c11, rfl⟩
        · -- 54 case 0
          have hP : va_P E.1 vwCl [(sc, .inr (3, [.int (nI len), .ref ch, .int (rdR Ch len p 1), .int (rdR Ch len ((e0 Ch len p) + 1) 2), .int fo, .int ti, .int (nI ((e1 Ch len p) + 1)), .int to, .int (nI fp)])), (ch, .inl (E.2.2.1, 80, .inl (fun zz => nI (Ch zz))))] _ := hP
          have hD : va_D AZ [(sc, .inr (3, [.int (nI len), .ref ch, .int (rdR Ch len p 1), .int (rdR Ch len ((e0 Ch len p) + 1) 2), .int fo, .int ti, .int (nI ((e1 Ch len p) + 1)), .int to, .int (nI fp)])), (ch, .inl (E.2.2.1, 80, .inl (fun zz => nI (Ch zz))))] := hD
          have k5 := c10
          refine lv_if_ne (tgt := 62) hx hb dX3_readNote_57 (by decide) (fun _ => ?_) (fun c => absurd c (by decide))
          refine lv_aload_n hx hb dX3_readNote_62 rfl (lv_at hl 0 rfl) ?_
          refine lv_aload_n hx hb dX3_readNote_63 rfl (lv_at hl 0 rfl) ?_
          refine lv_iconst (v := nI 4) hx hb dX3_readNote_64 (by decide) ?_
          have hPc := zP_sub (w := [(sc, .inr (3, [.int (nI len), .ref ch, .int (rdR Ch len p 1), .int (rdR Ch len ((e0 Ch len p) + 1) 2), .int fo, .int ti, .int (nI ((e1 Ch len p) + 1)), .int to, .int (nI fp)])), (ch, .inl (E.2.2.1, 80, .inl (fun zz => nI (Ch zz))))]) hP [0, 1] rfl
          have hDc := zD_sub (w := [(sc, .inr (3, [.int (nI len), .ref ch, .int (rdR Ch len p 1), .int (rdR Ch len ((e0 Ch len p) + 1) 2), .int fo, .int ti, .int (nI ((e1 Ch len p) + 1)), .int to, .int (nI fp)])), (ch, .inl (E.2.2.1, 80, .inl (fun zz => nI (Ch zz))))]) hD [0, 1] (by decide) rfl
          refine z_md [0, 1] (va_runV (As := [.int (nI 4)]) (rest := [.ref sc]) hF (c_X3_readNumber l E sc ch len ((e1 Ch len p) + 1) fp 4 (rdR Ch len p 1) (rdR Ch len ((e0 Ch len p) + 1) 2) fo ti to Ch (hCh) (hlen) (by omega) (by omega)) (cwV 1 hts gX3_readNote_X3_readNumber rfl rfl rfl (by decide +kernel) ⟨Nat.le_of_ble_eq_true rfl, Nat.le_of_ble_eq_true rfl⟩) (z_preMV (va_recv hG.1 hP (ci := 3) (q0 := 0) rfl rfl) hPc hDc hG) rfl rfl hl.1 rfl (lv_room (Nat.le_of_ble_eq_true rfl)) dX3_readNote_65 ⟨Nat.zero_le _, Nat.zero_le _⟩) hP hD hS rfl (fun r12 w' HZ locsZ hr12 hP hD hS => ?_)
          obtain ⟨rfl, rfl⟩ := hr12
          have hP : va_P E.1 vwCl [(sc, .inr (3, [.int (nI len), .ref ch, .int (rdR Ch len p 1), .int (rdR Ch len ((e0 Ch len p) + 1) 2), .int fo, .int ti, .int (nI (((e1 Ch len p) + 1) + nD Ch len ((e1 Ch len p) + 1) 4)), .int to, .int (nI fp)])), (ch, .inl (E.2.2.1, 80, .inl (fun zz => nI (Ch zz))))] _ := hP
          have hD : va_D AZ [(sc, .inr (3, [.int (nI len), .ref ch, .int (rdR Ch len p 1), .int (rdR Ch len ((e0 Ch len p) + 1) 2), .int fo, .int ti, .int (nI (((e1 Ch len p) + 1) + nD Ch len ((e1 Ch len p) + 1) 4)), .int to, .int (nI fp)])), (ch, .inl (E.2.2.1, 80, .inl (fun zz => nI (Ch zz))))] := hD
          have hP : va_P E.1 vwCl [(sc, .inr (3, [.int (nI len), .ref ch, .int (rdR Ch len p 1), .int (rdR Ch len ((e0 Ch len p) + 1) 2), .int fo, .int ti, .int (nI (e2 Ch len p)), .int to, .int (nI fp)])), (ch, .inl (E.2.2.1, 80, .inl (fun zz => nI (Ch zz))))] _ := hP
          have hD : va_D AZ [(sc, .inr (3, [.int (nI len), .ref ch, .int (rdR Ch len p 1), .int (rdR Ch len ((e0 Ch len p) + 1) 2), .int fo, .int ti, .int (nI (e2 Ch len p)), .int to, .int (nI fp)])), (ch, .inl (E.2.2.1, 80, .inl (fun zz => nI (Ch zz))))] := hD
          refine va_put (D := E.1) (ci := 3) (v := .int (rdR Ch len ((e1 Ch len p) + 1) 4)) (ty := .int) (C := RX3) (T := TX3) (N := 9) hx hb hts iwX3_readNote_X3_c_X3_readNote tyX3 tyX3_ok nmX3 hown hG.1 hP hD hS 0 rfl rfl 4 (by decide) (hts (.fieldLink RX3 39 "FrettedStrings$Score" "force" "I") (by decide +kernel)) (fun _ h9 => h9) rfl (by decide +kernel) rfl rfl (Nat.le_of_ble_eq_true rfl) dX3_readNote_68 (fun HZ locsZ hP hD hS => ?_)
          have hP : va_P E.1 vwCl [(sc, .inr (3, [.int (nI len), .ref ch, .int (rdR Ch len p 1), .int (rdR Ch len ((e0 Ch len p) + 1) 2), .int (rdR Ch len ((e1 Ch len p) + 1) 4), .int ti, .int (nI (e2 Ch len p)), .int to, .int (nI fp)])), (ch, .inl (E.2.2.1, 80, .inl (fun zz => nI (Ch zz))))] _ := hP
          have hD : va_D AZ [(sc, .inr (3, [.int (nI len), .ref ch, .int (rdR Ch len p 1), .int (rdR Ch len ((e0 Ch len p) + 1) 2), .int (rdR Ch len ((e1 Ch len p) + 1) 4), .int ti, .int (nI (e2 Ch len p)), .int to, .int (nI fp)])), (ch, .inl (E.2.2.1, 80, .inl (fun zz => nI (Ch zz))))] := hD
          refine lv_aload_n hx hb dX3_readNote_71 rfl (lv_at hl 0 rfl) ?_
          refine va_get (D := E.1) (ci := 3) (v := .int (rdR Ch len ((e1 Ch len p) + 1) 4)) (C := RX3) (T := TX3) (N := 9) hx hb hts iwX3_readNote_X3_c_X3_readNote hown hG.1 hP 0 rfl rfl 4 (by decide) (hts (.fieldLink RX3 39 "FrettedStrings$Score" "force" "I") (by decide +kernel)) (fun _ h9 => h9) rfl dX3_readNote_72 ?_
          refine lv_if_ge (tgt := 80) hx hb dX3_readNote_75 (by decide) (fun c13 => ?_) (fun c13 => ?_)
          · -- 75 t
            have k6 : nD Ch len (e1 Ch len p + 1) 4 ≠ 0 := fun q => absurd ((rd_neg hCh hlen (by omega)).mpr q) (Int32.not_lt.mpr c13)
            refine lv_aload_n hx hb dX3_readNote_80 rfl (lv_at hl 0 rfl) ?_
            refine lv_aload_n hx hb dX3_readNote_81 rfl (lv_at hl 0 rfl) ?_
            refine lv_bipush (v := nI 43) hx hb dX3_readNote_82 (by decide) ?_
            have hPc := zP_sub (w := [(sc, .inr (3, [.int (nI len), .ref ch, .int (rdR Ch len p 1), .int (rdR Ch len ((e0 Ch len p) + 1) 2), .int (rdR Ch len ((e1 Ch len p) + 1) 4), .int ti, .int (nI (e2 Ch len p)), .int to, .int (nI fp)])), (ch, .inl (E.2.2.1, 80, .inl (fun zz => nI (Ch zz))))]) hP [0, 1] rfl
            have hDc := zD_sub (w := [(sc, .inr (3, [.int (nI len), .ref ch, .int (rdR Ch len p 1), .int (rdR Ch len ((e0 Ch len p) + 1) 2), .int (rdR Ch len ((e1 Ch len p) + 1) 4), .int ti, .int (nI (e2 Ch len p)), .int to, .int (nI fp)])), (ch, .inl (E.2.2.1, 80, .inl (fun zz => nI (Ch zz))))]) hD [0, 1] (by decide) rfl
            refine z_md [0, 1] (va_runV (As := [.int (nI 43)]) (rest := [.ref sc]) hF (c_X3_readSign l E sc ch len (e2 Ch len p) fp 43 (rdR Ch len p 1) (rdR Ch len ((e0 Ch len p) + 1) 2) (rdR Ch len ((e1 Ch len p) + 1) 4) ti to Ch (hCh) (hlen) (by omega) (by omega)) (cwV 1 hts gX3_readNote_X3_readSign rfl rfl rfl (by decide +kernel) ⟨Nat.le_of_ble_eq_true rfl, Nat.le_of_ble_eq_true rfl⟩) (z_preMV (va_recv hG.1 hP (ci := 3) (q0 := 0) rfl rfl) hPc hDc hG) rfl rfl hl.1 rfl (lv_room (Nat.le_of_ble_eq_true rfl)) dX3_readNote_84 ⟨Nat.zero_le _, Nat.zero_le _⟩) hP hD hS rfl (fun r14 w' HZ locsZ hr14 hP hD hS => ?_)
            rcases hr14 with ⟨rfl, c15, rfl⟩ | ⟨rfl, c16, rfl⟩
            · -- 84 case 0
              have hP : va_P E.1 vwCl [(sc, .inr (3, [.int (nI len), .ref ch, .int (rdR Ch len p 1), .int (rdR Ch len ((e0 Ch len p) + 1) 2), .int (rdR Ch len ((e1 Ch len p) + 1) 4), .int ti, .int (nI ((e2 Ch len p) + 1)), .int to, .int (nI fp)])), (ch, .inl (E.2.2.1, 80, .inl (fun zz => nI (Ch zz))))] _ := hP
              have hD : va_D AZ [(sc, .inr (3, [.int (nI len), .ref ch, .int (rdR Ch len p 1), .int (rdR Ch len ((e0 Ch len p) + 1) 2), .int (rdR Ch len ((e1 Ch len p) + 1) 4), .int ti, .int (nI ((e2 Ch len p) + 1)), .int to, .int (nI fp)])), (ch, .inl (E.2.2.1, 80, .inl (fun zz => nI (Ch zz))))] := hD
              have k8 := c15
              have he3 : e3 Ch len p = e2 Ch len p + 1 + nD Ch len (e2 Ch len p + 1) 3 := by unfold e3; rw [if_pos k8]
              have htd : told Ch len p = nI 1 := by unfold told; rw [if_pos k8]
              refine va_put (D := E.1) (ci := 3) (v := .int (nI 1)) (ty := .boolean) (C := RX3) (T := TX3) (N := 9) hx hb hts iwX3_readNote_X3_c_X3_readNote tyX3 tyX3_ok nmX3 hown hG.1 hP hD hS 0 rfl rfl 7 (by decide) (hts (.fieldLink RX3 46 "FrettedStrings$Score" "ticksAreTold" "Z") (by decide +kernel)) (fun _ h9 => h9) rfl (by decide +kernel) rfl rfl (Nat.le_of_ble_eq_true rfl) dX3_readNote_87 (fun HZ locsZ hP hD hS => ?_)
              have hP : va_P E.1 vwCl [(sc, .inr (3, [.int (nI len), .ref ch, .int (rdR Ch len p 1), .int (rdR Ch len ((e0 Ch len p) + 1) 2), .int (rdR Ch len ((e1 Ch len p) + 1) 4), .int ti, .int (nI ((e2 Ch len p) + 1)), .int (nI 1), .int (nI fp)])), (ch, .inl (E.2.2.1, 80, .inl (fun zz => nI (Ch zz))))] _ := hP
              have hD : va_D AZ [(sc, .inr (3, [.int (nI len), .ref ch, .int (rdR Ch len p 1), .int (rdR Ch len ((e0 Ch len p) + 1) 2), .int (rdR Ch len ((e1 Ch len p) + 1) 4), .int ti, .int (nI ((e2 Ch len p) + 1)), .int (nI 1), .int (nI fp)])), (ch, .inl (E.2.2.1, 80, .inl (fun zz => nI (Ch zz))))] := hD
              refine lv_aload_n hx hb dX3_readNote_90 rfl (lv_at hl 0 rfl) ?_
              refine lv_aload_n hx hb dX3_readNote_91 rfl (lv_at hl 0 rfl) ?_
              refine va_get (D := E.1) (ci := 3) (v := .int (nI 1)) (C := RX3) (T := TX3) (N := 9) hx hb hts iwX3_readNote_X3_c_X3_readNote hown hG.1 hP 0 rfl rfl 7 (by decide) (hts (.fieldLink RX3 46 "FrettedStrings$Score" "ticksAreTold" "Z") (by decide +kernel)) (fun _ h9 => h9) rfl dX3_readNote_92 ?_
              refine lv_if_eq (tgt := 106) hx hb dX3_readNote_95 (by decide) (fun c => absurd c (by decide)) (fun _ => ?_)
              refine lv_aload_n hx hb dX3_readNote_98 rfl (lv_at hl 0 rfl) ?_
              refine lv_iconst (v := nI 3) hx hb dX3_readNote_99 (by decide) ?_
              have hPc := zP_sub (w := [(sc, .inr (3, [.int (nI len), .ref ch, .int (rdR Ch len p 1), .int (rdR Ch len ((e0 Ch len p) + 1) 2), .int (rdR Ch len ((e1 Ch len p) + 1) 4), .int ti, .int (nI ((e2 Ch len p) + 1)), .int (nI 1), .int (nI fp)])), (ch, .inl (E.2.2.1, 80, .inl (fun zz => nI (Ch zz))))]) hP [0, 1] rfl
              have hDc := zD_sub (w := [(sc, .inr (3, [.int (nI len), .ref ch, .int (rdR Ch len p 1), .int (rdR Ch len ((e0 Ch len p) + 1) 2), .int (rdR Ch len ((e1 Ch len p) + 1) 4), .int ti, .int (nI ((e2 Ch len p) + 1)), .int (nI 1), .int (nI fp)])), (ch, .inl (E.2.2.1, 80, .inl (fun zz => nI (Ch zz))))]) hD [0, 1] (by decide) rfl
              refine z_md [0, 1] (va_runV (As := [.int (nI 3)]) (rest := [.ref sc]) hF (c_X3_readNumber l E sc ch len ((e2 Ch len p) + 1) fp 3 (rdR Ch len p 1) (rdR Ch len ((e0 Ch len p) + 1) 2) (rdR Ch len ((e1 Ch len p) + 1) 4) ti (nI 1) Ch (hCh) (hlen) (by omega) (by omega)) (cwV 1 hts gX3_readNote_X3_readNumber rfl rfl rfl (by decide +kernel) ⟨Nat.le_of_ble_eq_true rfl, Nat.le_of_ble_eq_true rfl⟩) (z_preMV (va_recv hG.1 hP (ci := 3) (q0 := 0) rfl rfl) hPc hDc hG) rfl rfl hl.1 rfl (lv_room (Nat.le_of_ble_eq_true rfl)) dX3_readNote_100 ⟨Nat.zero_le _, Nat.zero_le _⟩) hP hD hS rfl (fun r17 w' HZ locsZ hr17 hP hD hS => ?_)
              obtain ⟨rfl, rfl⟩ := hr17
              have hP : va_P E.1 vwCl [(sc, .inr (3, [.int (nI len), .ref ch, .int (rdR Ch len p 1), .int (rdR Ch len ((e0 Ch len p) + 1) 2), .int (rdR Ch len ((e1 Ch len p) + 1) 4), .int ti, .int (nI (((e2 Ch len p) + 1) + nD Ch len ((e2 Ch len p) + 1) 3)), .int (nI 1), .int (nI fp)])), (ch, .inl (E.2.2.1, 80, .inl (fun zz => nI (Ch zz))))] _ := hP
              have hD : va_D AZ [(sc, .inr (3, [.int (nI len), .ref ch, .int (rdR Ch len p 1), .int (rdR Ch len ((e0 Ch len p) + 1) 2), .int (rdR Ch len ((e1 Ch len p) + 1) 4), .int ti, .int (nI (((e2 Ch len p) + 1) + nD Ch len ((e2 Ch len p) + 1) 3)), .int (nI 1), .int (nI fp)])), (ch, .inl (E.2.2.1, 80, .inl (fun zz => nI (Ch zz))))] := hD
              refine lv_goto (tgt := 107) hx hb dX3_readNote_103 (by decide) ?_
              refine va_put (D := E.1) (ci := 3) (v := .int (rdR Ch len ((e2 Ch len p) + 1) 3)) (ty := .int) (C := RX3) (T := TX3) (N := 9) hx hb hts iwX3_readNote_X3_c_X3_readNote tyX3 tyX3_ok nmX3 hown hG.1 hP hD hS 0 rfl rfl 5 (by decide) (hts (.fieldLink RX3 26 "FrettedStrings$Score" "ticks" "I") (by decide +kernel)) (fun _ h9 => h9) rfl (by decide +kernel) rfl rfl (Nat.le_of_ble_eq_true rfl) dX3_readNote_107 (fun HZ locsZ hP hD hS => ?_)
              have hP : va_P E.1 vwCl [(sc, .inr (3, [.int (nI len), .ref ch, .int (rdR Ch len p 1), .int (rdR Ch len ((e0 Ch len p) + 1) 2), .int (rdR Ch len ((e1 Ch len p) + 1) 4), .int (rdR Ch len ((e2 Ch len p) + 1) 3), .int (nI (((e2 Ch len p) + 1) + nD Ch len ((e2 Ch len p) + 1) 3)), .int (nI 1), .int (nI fp)])), (ch, .inl (E.2.2.1, 80, .inl (fun zz => nI (Ch zz))))] _ := hP
              have hD : va_D AZ [(sc, .inr (3, [.int (nI len), .ref ch, .int (rdR Ch len p 1), .int (rdR Ch len ((e0 Ch len p) + 1) 2), .int (rdR Ch len ((e1 Ch len p) + 1) 4), .int (rdR Ch len ((e2 Ch len p) + 1) 3), .int (nI (((e2 Ch len p) + 1) + nD Ch len ((e2 Ch len p) + 1) 3)), .int (nI 1), .int (nI fp)])), (ch, .inl (E.2.2.1, 80, .inl (fun zz => nI (Ch zz))))] := hD
              refine lv_aload_n hx hb dX3_readNote_110 rfl (lv_at hl 0 rfl) ?_
              refine va_get (D := E.1) (ci := 3) (v := .int (rdR Ch len ((e2 Ch len p) + 1) 3)) (C := RX3) (T := TX3) (N := 9) hx hb hts iwX3_readNote_X3_c_X3_readNote hown hG.1 hP 0 rfl rfl 5 (by decide) (hts (.fieldLink RX3 26 "FrettedStrings$Score" "ticks" "I") (by decide +kernel)) (fun _ h9 => h9) rfl dX3_readNote_111 ?_
              refine lv_if_lt (tgt := 130) hx hb dX3_readNote_114 (by decide) (fun c18 => ?_) (fun c18 => ?_)
              · -- 114 t
                refine lv_iconst (v := nI 0) hx hb dX3_readNote_130 (by decide) ?_
                exact hret _ _ _ _ _ _ hP hS dX3_readNote_131 rfl (Or.inr (⟨(rdR Ch len p 1), (rdR Ch len ((e0 Ch len p) + 1) 2), (rdR Ch len ((e1 Ch len p) + 1) 4), (rdR Ch len ((e2 Ch len p) + 1) 3), (((e2 Ch len p) + 1) + nD Ch len ((e2 Ch len p) + 1) 3), (nI 1), rfl, by intro q; first | exact q.2.2.2.2.2.2.1 (by assumption) ((rd_neg hCh hlen (by omega)).mp (by assumption)) | exact absurd (he3 ▸ q.2.2.2.2.2.2.2) (by assumption), rfl⟩))
              · -- 114 f
                have k7 : sgn Ch len (e2 Ch len p) = 43 → nD Ch len (e2 Ch len p + 1) 3 ≠ 0 := fun _ q => c18 ((rd_neg hCh hlen (by omega)).mpr q)
                refine lv_aload_n hx hb dX3_readNote_117 rfl (lv_at hl 0 rfl) ?_
                refine lv_bipush (v := nI 59) hx hb dX3_readNote_118 (by decide) ?_
                have hPc := zP_sub (w := [(sc, .inr (3, [.int (nI len), .ref ch, .int (rdR Ch len p 1), .int (rdR Ch len ((e0 Ch len p) + 1) 2), .int (rdR Ch len ((e1 Ch len p) + 1) 4), .int (rdR Ch len ((e2 Ch len p) + 1) 3), .int (nI (((e2 Ch len p) + 1) + nD Ch len ((e2 Ch len p) + 1) 3)), .int (nI 1), .int (nI fp)])), (ch, .inl (E.2.2.1, 80, .inl (fun zz => nI (Ch zz))))]) hP [0, 1] rfl
                have hDc := zD_sub (w := [(sc, .inr (3, [.int (nI len), .ref ch, .int (rdR Ch len p 1), .int (rdR Ch len ((e0 Ch len p) + 1) 2), .int (rdR Ch len ((e1 Ch len p) + 1) 4), .int (rdR Ch len ((e2 Ch len p) + 1) 3), .int (nI (((e2 Ch len p) + 1) + nD Ch len ((e2 Ch len p) + 1) 3)), .int (nI 1), .int (nI fp)])), (ch, .inl (E.2.2.1, 80, .inl (fun zz => nI (Ch zz))))]) hD [0, 1] (by decide) rfl
                refine z_md [0, 1] (va_runV (As := [.int (nI 59)]) (rest := []) hF (c_X3_readSign l E sc ch len (((e2 Ch len p) + 1) + nD Ch len ((e2 Ch len p) + 1) 3) fp 59 (rdR Ch len p 1) (rdR Ch len ((e0 Ch len p) + 1) 2) (rdR Ch len ((e1 Ch len p) + 1) 4) (rdR Ch len ((e2 Ch len p) + 1) 3) (nI 1) Ch (hCh) (hlen) (by omega) (by omega)) (cwV 1 hts gX3_readNote_X3_readSign rfl rfl rfl (by decide +kernel) ⟨Nat.le_of_ble_eq_true rfl, Nat.le_of_ble_eq_true rfl⟩) (z_preMV (va_recv hG.1 hP (ci := 3) (q0 := 0) rfl rfl) hPc hDc hG) rfl rfl hl.1 rfl (lv_room (Nat.le_of_ble_eq_true rfl)) dX3_readNote_120 ⟨Nat.zero_le _, Nat.zero_le _⟩) hP hD hS rfl (fun r19 w' HZ locsZ hr19 hP hD hS => ?_)
                rcases hr19 with ⟨rfl, c20, rfl⟩ | ⟨rfl, c21, rfl⟩
                · -- 120 case 0
                  have hP : va_P E.1 vwCl [(sc, .inr (3, [.int (nI len), .ref ch, .int (rdR Ch len p 1), .int (rdR Ch len ((e0 Ch len p) + 1) 2), .int (rdR Ch len ((e1 Ch len p) + 1) 4), .int (rdR Ch len ((e2 Ch len p) + 1) 3), .int (nI ((((e2 Ch len p) + 1) + nD Ch len ((e2 Ch len p) + 1) 3) + 1)), .int (nI 1), .int (nI fp)])), (ch, .inl (E.2.2.1, 80, .inl (fun zz => nI (Ch zz))))] _ := hP
                  have hD : va_D AZ [(sc, .inr (3, [.int (nI len), .ref ch, .int (rdR Ch len p 1), .int (rdR Ch len ((e0 Ch len p) + 1) 2), .int (rdR Ch len ((e1 Ch len p) + 1) 4), .int (rdR Ch len ((e2 Ch len p) + 1) 3), .int (nI ((((e2 Ch len p) + 1) + nD Ch len ((e2 Ch len p) + 1) 3) + 1)), .int (nI 1), .int (nI fp)])), (ch, .inl (E.2.2.1, 80, .inl (fun zz => nI (Ch zz))))] := hD
                  refine lv_if_eq (tgt := 130) hx hb dX3_readNote_123 (by decide) (fun c => absurd c (by decide)) (fun _ => ?_)
                  refine lv_iconst (v := nI 1) hx hb dX3_readNote_126 (by decide) ?_
                  refine lv_goto (tgt := 131) hx hb dX3_readNote_127 (by decide) ?_
                  have e22 : (rdR Ch len p 1) = nI (a0 Ch len p) := by first | rfl | (exact rd_pos k1)
                  have hP : va_P E.1 vwCl [(sc, .inr (3, [.int (nI len), .ref ch, .int (nI (a0 Ch len p)), .int (rdR Ch len ((e0 Ch len p) + 1) 2), .int (rdR Ch len ((e1 Ch len p) + 1) 4), .int (rdR Ch len ((e2 Ch len p) + 1) 3), .int (nI ((((e2 Ch len p) + 1) + nD Ch len ((e2 Ch len p) + 1) 3) + 1)), .int (nI 1), .int (nI fp)])), (ch, .inl (E.2.2.1, 80, .inl (fun zz => nI (Ch zz))))] HZ := Eq.subst (motive := fun XX : Int32 => va_P E.1 vwCl [(sc, .inr (3, [.int (nI len), .ref ch, .int XX, .int (rdR Ch len ((e0 Ch len p) + 1) 2), .int (rdR Ch len ((e1 Ch len p) + 1) 4), .int (rdR Ch len ((e2 Ch len p) + 1) 3), .int (nI ((((e2 Ch len p) + 1) + nD Ch len ((e2 Ch len p) + 1) 3) + 1)), .int (nI 1), .int (nI fp)])), (ch, .inl (E.2.2.1, 80, .inl (fun zz => nI (Ch zz))))] HZ) e22 hP
                  have hD : va_D AZ [(sc, .inr (3, [.int (nI len), .ref ch, .int (nI (a0 Ch len p)), .int (rdR Ch len ((e0 Ch len p) + 1) 2), .int (rdR Ch len ((e1 Ch len p) + 1) 4), .int (rdR Ch len ((e2 Ch len p) + 1) 3), .int (nI ((((e2 Ch len p) + 1) + nD Ch len ((e2 Ch len p) + 1) 3) + 1)), .int (nI 1), .int (nI fp)])), (ch, .inl (E.2.2.1, 80, .inl (fun zz => nI (Ch zz))))] := Eq.subst (motive := fun XX : Int32 => va_D AZ [(sc, .inr (3, [.int (nI len), .ref ch, .int XX, .int (rdR Ch len ((e0 Ch len p) + 1) 2), .int (rdR Ch len ((e1 Ch len p) + 1) 4), .int (rdR Ch len ((e2 Ch len p) + 1) 3), .int (nI ((((e2 Ch len p) + 1) + nD Ch len ((e2 Ch len p) + 1) 3) + 1)), .int (nI 1), .int (nI fp)])), (ch, .inl (E.2.2.1, 80, .inl (fun zz => nI (Ch zz))))]) e22 hD
                  have e23 : (rdR Ch len ((e0 Ch len p) + 1) 2) = nI (fV Ch len p) := by first | rfl | (exact rd_pos k4)
                  have hP : va_P E.1 vwCl [(sc, .inr (3, [.int (nI len), .ref ch, .int (nI (a0 Ch len p)), .int (nI (fV Ch len p)), .int (rdR Ch len ((e1 Ch len p) + 1) 4), .int (rdR Ch len ((e2 Ch len p) + 1) 3), .int (nI ((((e2 Ch len p) + 1) + nD Ch len ((e2 Ch len p) + 1) 3) + 1)), .int (nI 1), .int (nI fp)])), (ch, .inl (E.2.2.1, 80, .inl (fun zz => nI (Ch zz))))] HZ := Eq.subst (motive := fun XX : Int32 => va_P E.1 vwCl [(sc, .inr (3, [.int (nI len), .ref ch, .int (nI (a0 Ch len p)), .int XX, .int (rdR Ch len ((e1 Ch len p) + 1) 4), .int (rdR Ch len ((e2 Ch len p) + 1) 3), .int (nI ((((e2 Ch len p) + 1) + nD Ch len ((e2 Ch len p) + 1) 3) + 1)), .int (nI 1), .int (nI fp)])), (ch, .inl (E.2.2.1, 80, .inl (fun zz => nI (Ch zz))))] HZ) e23 hP
                  have hD : va_D AZ [(sc, .inr (3, [.int (nI len), .ref ch, .int (nI (a0 Ch len p)), .int (nI (fV Ch len p)), .int (rdR Ch len ((e1 Ch len p) + 1) 4), .int (rdR Ch len ((e2 Ch len p) + 1) 3), .int (nI ((((e2 Ch len p) + 1) + nD Ch len ((e2 Ch len p) + 1) 3) + 1)), .int (nI 1), .int (nI fp)])), (ch, .inl (E.2.2.1, 80, .inl (fun zz => nI (Ch zz))))] := Eq.subst (motive := fun XX : Int32 => va_D AZ [(sc, .inr (3, [.int (nI len), .ref ch, .int (nI (a0 Ch len p)), .int XX, .int (rdR Ch len ((e1 Ch len p) + 1) 4), .int (rdR Ch len ((e2 Ch len p) + 1) 3), .int (nI ((((e2 Ch len p) + 1) + nD Ch len ((e2 Ch len p) + 1) 3) + 1)), .int (nI 1), .int (nI fp)])), (ch, .inl (E.2.2.1, 80, .inl (fun zz => nI (Ch zz))))]) e23 hD
                  have e24 : (rdR Ch len ((e1 Ch len p) + 1) 4) = nI (qV Ch len p) := by first | rfl | (exact rd_pos k6)
                  have hP : va_P E.1 vwCl [(sc, .inr (3, [.int (nI len), .ref ch, .int (nI (a0 Ch len p)), .int (nI (fV Ch len p)), .int (nI (qV Ch len p)), .int (rdR Ch len ((e2 Ch len p) + 1) 3), .int (nI ((((e2 Ch len p) + 1) + nD Ch len ((e2 Ch len p) + 1) 3) + 1)), .int (nI 1), .int (nI fp)])), (ch, .inl (E.2.2.1, 80, .inl (fun zz => nI (Ch zz))))] HZ := Eq.subst (motive := fun XX : Int32 => va_P E.1 vwCl [(sc, .inr (3, [.int (nI len), .ref ch, .int (nI (a0 Ch len p)), .int (nI (fV Ch len p)), .int XX, .int (rdR Ch len ((e2 Ch len p) + 1) 3), .int (nI ((((e2 Ch len p) + 1) + nD Ch len ((e2 Ch len p) + 1) 3) + 1)), .int (nI 1), .int (nI fp)])), (ch, .inl (E.2.2.1, 80, .inl (fun zz => nI (Ch zz))))] HZ) e24 hP
                  have hD : va_D AZ [(sc, .inr (3, [.int (nI len), .ref ch, .int (nI (a0 Ch len p)), .int (nI (fV Ch len p)), .int (nI (qV Ch len p)), .int (rdR Ch len ((e2 Ch len p) + 1) 3), .int (nI ((((e2 Ch len p) + 1) + nD Ch len ((e2 Ch len p) + 1) 3) + 1)), .int (nI 1), .int (nI fp)])), (ch, .inl (E.2.2.1, 80, .inl (fun zz => nI (Ch zz))))] := Eq.subst (motive := fun XX : Int32 => va_D AZ [(sc, .inr (3, [.int (nI len), .ref ch, .int (nI (a0 Ch len p)), .int (nI (fV Ch len p)), .int XX, .int (rdR Ch len ((e2 Ch len p) + 1) 3), .int (nI ((((e2 Ch len p) + 1) + nD Ch len ((e2 Ch len p) + 1) 3) + 1)), .int (nI 1), .int (nI fp)])), (ch, .inl (E.2.2.1, 80, .inl (fun zz => nI (Ch zz))))]) e24 hD
                  have e25 : (rdR Ch len ((e2 Ch len p) + 1) 3) = nI (tV Ch len p) := by first | rfl | (unfold tV; first | rw [if_pos k8]; exact rd_pos (k7 k8) | rw [if_neg k8])
                  have hP : va_P E.1 vwCl [(sc, .inr (3, [.int (nI len), .ref ch, .int (nI (a0 Ch len p)), .int (nI (fV Ch len p)), .int (nI (qV Ch len p)), .int (nI (tV Ch len p)), .int (nI ((((e2 Ch len p) + 1) + nD Ch len ((e2 Ch len p) + 1) 3) + 1)), .int (nI 1), .int (nI fp)])), (ch, .inl (E.2.2.1, 80, .inl (fun zz => nI (Ch zz))))] HZ := Eq.subst (motive := fun XX : Int32 => va_P E.1 vwCl [(sc, .inr (3, [.int (nI len), .ref ch, .int (nI (a0 Ch len p)), .int (nI (fV Ch len p)), .int (nI (qV Ch len p)), .int XX, .int (nI ((((e2 Ch len p) + 1) + nD Ch len ((e2 Ch len p) + 1) 3) + 1)), .int (nI 1), .int (nI fp)])), (ch, .inl (E.2.2.1, 80, .inl (fun zz => nI (Ch zz))))] HZ) e25 hP
                  have hD : va_D AZ [(sc, .inr (3, [.int (nI len), .ref ch, .int (nI (a0 Ch len p)), .int (nI (fV Ch len p)), .int (nI (qV Ch len p)), .int (nI (tV Ch len p)), .int (nI ((((e2 Ch len p) + 1) + nD Ch len ((e2 Ch len p) + 1) 3) + 1)), .int (nI 1), .int (nI fp)])), (ch, .inl (E.2.2.1, 80, .inl (fun zz => nI (Ch zz))))] := Eq.subst (motive := fun XX : Int32 => va_D AZ [(sc, .inr (3, [.int (nI len), .ref ch, .int (nI (a0 Ch len p)), .int (nI (fV Ch len p)), .int (nI (qV Ch len p)), .int XX, .int (nI ((((e2 Ch len p) + 1) + nD Ch len ((e2 Ch len p) + 1) 3) + 1)), .int (nI 1), .int (nI fp)])), (ch, .inl (E.2.2.1, 80, .inl (fun zz => nI (Ch zz))))]) e25 hD
                  have e26 : nI ((((e2 Ch len p) + 1) + nD Ch len ((e2 Ch len p) + 1) 3) + 1) = nI (e3 Ch len p + 1) := by first | rfl | (rw [he3])
                  have hP : va_P E.1 vwCl [(sc, .inr (3, [.int (nI len), .ref ch, .int (nI (a0 Ch len p)), .int (nI (fV Ch len p)), .int (nI (qV Ch len p)), .int (nI (tV Ch len p)), .int (nI (e3 Ch len p + 1)), .int (nI 1), .int (nI fp)])), (ch, .inl (E.2.2.1, 80, .inl (fun zz => nI (Ch zz))))] HZ := Eq.subst (motive := fun XX : Int32 => va_P E.1 vwCl [(sc, .inr (3, [.int (nI len), .ref ch, .int (nI (a0 Ch len p)), .int (nI (fV Ch len p)), .int (nI (qV Ch len p)), .int (nI (tV Ch len p)), .int XX, .int (nI 1), .int (nI fp)])), (ch, .inl (E.2.2.1, 80, .inl (fun zz => nI (Ch zz))))] HZ) e26 hP
                  have hD : va_D AZ [(sc, .inr (3, [.int (nI len), .ref ch, .int (nI (a0 Ch len p)), .int (nI (fV Ch len p)), .int (nI (qV Ch len p)), .int (nI (tV Ch len p)), .int (nI (e3 Ch len p + 1)), .int (nI 1), .int (nI fp)])), (ch, .inl (E.2.2.1, 80, .inl (fun zz => nI (Ch zz))))] := Eq.subst (motive := fun XX : Int32 => va_D AZ [(sc, .inr (3, [.int (nI len), .ref ch, .int (nI (a0 Ch len p)), .int (nI (fV Ch len p)), .int (nI (qV Ch len p)), .int (nI (tV Ch len p)), .int XX, .int (nI 1), .int (nI fp)])), (ch, .inl (E.2.2.1, 80, .inl (fun zz => nI (Ch zz))))]) e26 hD
                  have e27 : (nI 1) = told Ch len p := by first | rfl | (exact htd.symm)
                  have hP : va_P E.1 vwCl [(sc, .inr (3, [.int (nI len), .ref ch, .int (nI (a0 Ch len p)), .int (nI (fV Ch len p)), .int (nI (qV Ch len p)), .int (nI (tV Ch len p)), .int (nI (e3 Ch len p + 1)), .int (told Ch len p), .int (nI fp)])), (ch, .inl (E.2.2.1, 80, .inl (fun zz => nI (Ch zz))))] HZ := Eq.subst (motive := fun XX : Int32 => va_P E.1 vwCl [(sc, .inr (3, [.int (nI len), .ref ch, .int (nI (a0 Ch len p)), .int (nI (fV Ch len p)), .int (nI (qV Ch len p)), .int (nI (tV Ch len p)), .int (nI (e3 Ch len p + 1)), .int XX, .int (nI fp)])), (ch, .inl (E.2.2.1, 80, .inl (fun zz => nI (Ch zz))))] HZ) e27 hP
                  have hD : va_D AZ [(sc, .inr (3, [.int (nI len), .ref ch, .int (nI (a0 Ch len p)), .int (nI (fV Ch len p)), .int (nI (qV Ch len p)), .int (nI (tV Ch len p)), .int (nI (e3 Ch len p + 1)), .int (told Ch len p), .int (nI fp)])), (ch, .inl (E.2.2.1, 80, .inl (fun zz => nI (Ch zz))))] := Eq.subst (motive := fun XX : Int32 => va_D AZ [(sc, .inr (3, [.int (nI len), .ref ch, .int (nI (a0 Ch len p)), .int (nI (fV Ch len p)), .int (nI (qV Ch len p)), .int (nI (tV Ch len p)), .int (nI (e3 Ch len p + 1)), .int XX, .int (nI fp)])), (ch, .inl (E.2.2.1, 80, .inl (fun zz => nI (Ch zz))))]) e27 hD
                  exact hret _ _ _ _ _ _ hP hS dX3_readNote_131 rfl (Or.inl ⟨rfl, ⟨k1, k2, k3, k4, k5, k6, k7, he3 ▸ (by assumption)⟩, rfl⟩)
                · -- 120 case 1
                  have hP : va_P E.1 vwCl [(sc, .inr (3, [.int (nI len), .ref ch, .int (rdR Ch len p 1), .int (rdR Ch len ((e0 Ch len p) + 1) 2), .int (rdR Ch len ((e1 Ch len p) + 1) 4), .int (rdR Ch len ((e2 Ch len p) + 1) 3), .int (nI (((e2 Ch len p) + 1) + nD Ch len ((e2 Ch len p) + 1) 3)), .int (nI 1), .int (nI fp)])), (ch, .inl (E.2.2.1, 80, .inl (fun zz => nI (Ch zz))))] _ := hP
                  have hD : va_D AZ [(sc, .inr (3, [.int (nI len), .ref ch, .int (rdR Ch len p 1), .int (rdR Ch len ((e0 Ch len p) + 1) 2), .int (rdR Ch len ((e1 Ch len p) + 1) 4), .int (rdR Ch len ((e2 Ch len p) + 1) 3), .int (nI (((e2 Ch len p) + 1) + nD Ch len ((e2 Ch len p) + 1) 3)), .int (nI 1), .int (nI fp)])), (ch, .inl (E.2.2.1, 80, .inl (fun zz => nI (Ch zz))))] := hD
                  refine lv_if_eq (tgt := 130) hx hb dX3_readNote_123 (by decide) (fun _ => ?_) (fun c => absurd c (by decide))
                  refine lv_iconst (v := nI 0) hx hb dX3_readNote_130 (by decide) ?_
                  exact hret _ _ _ _ _ _ hP hS dX3_readNote_131 rfl (Or.inr (⟨(rdR Ch len p 1), (rdR Ch len ((e0 Ch len p) + 1) 2), (rdR Ch len ((e1 Ch len p) + 1) 4), (rdR Ch len ((e2 Ch len p) + 1) 3), (((e2 Ch len p) + 1) + nD Ch len ((e2 Ch len p) + 1) 3), (nI 1), rfl, by intro q; first | exact q.2.2.2.2.2.2.1 (by assumption) ((rd_neg hCh hlen (by omega)).mp (by assumption)) | exact absurd (he3 ▸ q.2.2.2.2.2.2.2) (by assumption), rfl⟩))
            · -- 84 case 1
              have hP : va_P E.1 vwCl [(sc, .inr (3, [.int (nI len), .ref ch, .int (rdR Ch len p 1), .int (rdR Ch len ((e0 Ch len p) + 1) 2), .int (rdR Ch len ((e1 Ch len p) + 1) 4), .int ti, .int (nI (e2 Ch len p)), .int to, .int (nI fp)])), (ch, .inl (E.2.2.1, 80, .inl (fun zz => nI (Ch zz))))] _ := hP
              have hD : va_D AZ [(sc, .inr (3, [.int (nI len), .ref ch, .int (rdR Ch len p 1), .int (rdR Ch len ((e0 Ch len p) + 1) 2), .int (rdR Ch len ((e1 Ch len p) + 1) 4), .int ti, .int (nI (e2 Ch len p)), .int to, .int (nI fp)])), (ch, .inl (E.2.2.1, 80, .inl (fun zz => nI (Ch zz))))] := hD
              have k8 := c16
              have he3 : e3 Ch len p = e2 Ch len p := by unfold e3; rw [if_neg k8]
              have htd : told Ch len p = nI 0 := by unfold told; rw [if_neg k8]
              have k7 : sgn Ch len (e2 Ch len p) = 43 → nD Ch len (e2 Ch len p + 1) 3 ≠ 0 := fun q => absurd q k8
              refine va_put (D := E.1) (ci := 3) (v := .int (nI 0)) (ty := .boolean) (C := RX3) (T := TX3) (N := 9) hx hb hts iwX3_readNote_X3_c_X3_readNote tyX3 tyX3_ok nmX3 hown hG.1 hP hD hS 0 rfl rfl 7 (by decide) (hts (.fieldLink RX3 46 "FrettedStrings$Score" "ticksAreTold" "Z") (by decide +kernel)) (fun _ h9 => h9) rfl (by decide +kernel) rfl rfl (Nat.le_of_ble_eq_true rfl) dX3_readNote_87 (fun HZ locsZ hP hD hS => ?_)
              have hP : va_P E.1 vwCl [(sc, .inr (3, [.int (nI len), .ref ch, .int (rdR Ch len p 1), .int (rdR Ch len ((e0 Ch len p) + 1) 2), .int (rdR Ch len ((e1 Ch len p) + 1) 4), .int ti, .int (nI (e2 Ch len p)), .int (nI 0), .int (nI fp)])), (ch, .inl (E.2.2.1, 80, .inl (fun zz => nI (Ch zz))))] _ := hP
              have hD : va_D AZ [(sc, .inr (3, [.int (nI len), .ref ch, .int (rdR Ch len p 1), .int (rdR Ch len ((e0 Ch len p) + 1) 2), .int (rdR Ch len ((e1 Ch len p) + 1) 4), .int ti, .int (nI (e2 Ch len p)), .int (nI 0), .int (nI fp)])), (ch, .inl (E.2.2.1, 80, .inl (fun zz => nI (Ch zz))))] := hD
              refine lv_aload_n hx hb dX3_readNote_90 rfl (lv_at hl 0 rfl) ?_
              refine lv_aload_n hx hb dX3_readNote_91 rfl (lv_at hl 0 rfl) ?_
              refine va_get (D := E.1) (ci := 3) (v := .int (nI 0)) (C := RX3) (T := TX3) (N := 9) hx hb hts iwX3_readNote_X3_c_X3_readNote hown hG.1 hP 0 rfl rfl 7 (by decide) (hts (.fieldLink RX3 46 "FrettedStrings$Score" "ticksAreTold" "Z") (by decide +kernel)) (fun _ h9 => h9) rfl dX3_readNote_92 ?_
              refine lv_if_eq (tgt := 106) hx hb dX3_readNote_95 (by decide) (fun _ => ?_) (fun c => absurd c (by decide))
              refine lv_iconst (v := nI 0) hx hb dX3_readNote_106 (by decide) ?_
              refine va_put (D := E.1) (ci := 3) (v := .int (nI 0)) (ty := .int) (C := RX3) (T := TX3) (N := 9) hx hb hts iwX3_readNote_X3_c_X3_readNote tyX3 tyX3_ok nmX3 hown hG.1 hP hD hS 0 rfl rfl 5 (by decide) (hts (.fieldLink RX3 26 "FrettedStrings$Score" "ticks" "I") (by decide +kernel)) (fun _ h9 => h9) rfl (by decide +kernel) rfl rfl (Nat.le_of_ble_eq_true rfl) dX3_readNote_107 (fun HZ locsZ hP hD hS => ?_)
              have hP : va_P E.1 vwCl [(sc, .inr (3, [.int (nI len), .ref ch, .int (rdR Ch len p 1), .int (rdR Ch len ((e0 Ch len p) + 1) 2), .int (rdR Ch len ((e1 Ch len p) + 1) 4), .int (nI 0), .int (nI (e2 Ch len p)), .int (nI 0), .int (nI fp)])), (ch, .inl (E.2.2.1, 80, .inl (fun zz => nI (Ch zz))))] _ := hP
              have hD : va_D AZ [(sc, .inr (3, [.int (nI len), .ref ch, .int (rdR Ch len p 1), .int (rdR Ch len ((e0 Ch len p) + 1) 2), .int (rdR Ch len ((e1 Ch len p) + 1) 4), .int (nI 0), .int (nI (e2 Ch len p)), .int (nI 0), .int (nI fp)])), (ch, .inl (E.2.2.1, 80, .inl (fun zz => nI (Ch zz))))] := hD
              refine lv_aload_n hx hb dX3_readNote_110 rfl (lv_at hl 0 rfl) ?_
              refine va_get (D := E.1) (ci := 3) (v := .int (nI 0)) (C := RX3) (T := TX3) (N := 9) hx hb hts iwX3_readNote_X3_c_X3_readNote hown hG.1 hP 0 rfl rfl 5 (by decide) (hts (.fieldLink RX3 26 "FrettedStrings$Score" "ticks" "I") (by decide +kernel)) (fun _ h9 => h9) rfl dX3_readNote_111 ?_
              refine lv_if_lt (tgt := 130) hx hb dX3_readNote_114 (by decide) (fun c => absurd c (by decide)) (fun _ => ?_)
              refine lv_aload_n hx hb dX3_readNote_117 rfl (lv_at hl 0 rfl) ?_
              refine lv_bipush (v := nI 59) hx hb dX3_readNote_118 (by decide) ?_
              have hPc := zP_sub (w := [(sc, .inr (3, [.int (nI len), .ref ch, .int (rdR Ch len p 1), .int (rdR Ch len ((e0 Ch len p) + 1) 2), .int (rdR Ch len ((e1 Ch len p) + 1) 4), .int (nI 0), .int (nI (e2 Ch len p)), .int (nI 0), .int (nI fp)])), (ch, .inl (E.2.2.1, 80, .inl (fun zz => nI (Ch zz))))]) hP [0, 1] rfl
              have hDc := zD_sub (w := [(sc, .inr (3, [.int (nI len), .ref ch, .int (rdR Ch len p 1), .int (rdR Ch len ((e0 Ch len p) + 1) 2), .int (rdR Ch len ((e1 Ch len p) + 1) 4), .int (nI 0), .int (nI (e2 Ch len p)), .int (nI 0), .int (nI fp)])), (ch, .inl (E.2.2.1, 80, .inl (fun zz => nI (Ch zz))))]) hD [0, 1] (by decide) rfl
              refine z_md [0, 1] (va_runV (As := [.int (nI 59)]) (rest := []) hF (c_X3_readSign l E sc ch len (e2 Ch len p) fp 59 (rdR Ch len p 1) (rdR Ch len ((e0 Ch len p) + 1) 2) (rdR Ch len ((e1 Ch len p) + 1) 4) (nI 0) (nI 0) Ch (hCh) (hlen) (by omega) (by omega)) (cwV 1 hts gX3_readNote_X3_readSign rfl rfl rfl (by decide +kernel) ⟨Nat.le_of_ble_eq_true rfl, Nat.le_of_ble_eq_true rfl⟩) (z_preMV (va_recv hG.1 hP (ci := 3) (q0 := 0) rfl rfl) hPc hDc hG) rfl rfl hl.1 rfl (lv_room (Nat.le_of_ble_eq_true rfl)) dX3_readNote_120 ⟨Nat.zero_le _, Nat.zero_le _⟩) hP hD hS rfl (fun r28 w' HZ locsZ hr28 hP hD hS => ?_)
              rcases hr28 with ⟨rfl, c29, rfl⟩ | ⟨rfl, c30, rfl⟩
              · -- 120 case 0
                have hP : va_P E.1 vwCl [(sc, .inr (3, [.int (nI len), .ref ch, .int (rdR Ch len p 1), .int (rdR Ch len ((e0 Ch len p) + 1) 2), .int (rdR Ch len ((e1 Ch len p) + 1) 4), .int (nI 0), .int (nI ((e2 Ch len p) + 1)), .int (nI 0), .int (nI fp)])), (ch, .inl (E.2.2.1, 80, .inl (fun zz => nI (Ch zz))))] _ := hP
                have hD : va_D AZ [(sc, .inr (3, [.int (nI len), .ref ch, .int (rdR Ch len p 1), .int (rdR Ch len ((e0 Ch len p) + 1) 2), .int (rdR Ch len ((e1 Ch len p) + 1) 4), .int (nI 0), .int (nI ((e2 Ch len p) + 1)), .int (nI 0), .int (nI fp)])), (ch, .inl (E.2.2.1, 80, .inl (fun zz => nI (Ch zz))))] := hD
                refine lv_if_eq (tgt := 130) hx hb dX3_readNote_123 (by decide) (fun c => absurd c (by decide)) (fun _ => ?_)
                refine lv_iconst (v := nI 1) hx hb dX3_readNote_126 (by decide) ?_
                refine lv_goto (tgt := 131) hx hb dX3_readNote_127 (by decide) ?_
                have e31 : (rdR Ch len p 1) = nI (a0 Ch len p) := by first | rfl | (exact rd_pos k1)
                have hP : va_P E.1 vwCl [(sc, .inr (3, [.int (nI len), .ref ch, .int (nI (a0 Ch len p)), .int (rdR Ch len ((e0 Ch len p) + 1) 2), .int (rdR Ch len ((e1 Ch len p) + 1) 4), .int (nI 0), .int (nI ((e2 Ch len p) + 1)), .int (nI 0), .int (nI fp)])), (ch, .inl (E.2.2.1, 80, .inl (fun zz => nI (Ch zz))))] HZ := Eq.subst (motive := fun XX : Int32 => va_P E.1 vwCl [(sc, .inr (3, [.int (nI len), .ref ch, .int XX, .int (rdR Ch len ((e0 Ch len p) + 1) 2), .int (rdR Ch len ((e1 Ch len p) + 1) 4), .int (nI 0), .int (nI ((e2 Ch len p) + 1)), .int (nI 0), .int (nI fp)])), (ch, .inl (E.2.2.1, 80, .inl (fun zz => nI (Ch zz))))] HZ) e31 hP
                have hD : va_D AZ [(sc, .inr (3, [.int (nI len), .ref ch, .int (nI (a0 Ch len p)), .int (rdR Ch len ((e0 Ch len p) + 1) 2), .int (rdR Ch len ((e1 Ch len p) + 1) 4), .int (nI 0), .int (nI ((e2 Ch len p) + 1)), .int (nI 0), .int (nI fp)])), (ch, .inl (E.2.2.1, 80, .inl (fun zz => nI (Ch zz))))] := Eq.subst (motive := fun XX : Int32 => va_D AZ [(sc, .inr (3, [.int (nI len), .ref ch, .int XX, .int (rdR Ch len ((e0 Ch len p) + 1) 2), .int (rdR Ch len ((e1 Ch len p) + 1) 4), .int (nI 0), .int (nI ((e2 Ch len p) + 1)), .int (nI 0), .int (nI fp)])), (ch, .inl (E.2.2.1, 80, .inl (fun zz => nI (Ch zz))))]) e31 hD
                have e32 : (rdR Ch len ((e0 Ch len p) + 1) 2) = nI (fV Ch len p) := by first | rfl | (exact rd_pos k4)
                have hP : va_P E.1 vwCl [(sc, .inr (3, [.int (nI len), .ref ch, .int (nI (a0 Ch len p)), .int (nI (fV Ch len p)), .int (rdR Ch len ((e1 Ch len p) + 1) 4), .int (nI 0), .int (nI ((e2 Ch len p) + 1)), .int (nI 0), .int (nI fp)])), (ch, .inl (E.2.2.1, 80, .inl (fun zz => nI (Ch zz))))] HZ := Eq.subst (motive := fun XX : Int32 => va_P E.1 vwCl [(sc, .inr (3, [.int (nI len), .ref ch, .int (nI (a0 Ch len p)), .int XX, .int (rdR Ch len ((e1 Ch len p) + 1) 4), .int (nI 0), .int (nI ((e2 Ch len p) + 1)), .int (nI 0), .int (nI fp)])), (ch, .inl (E.2.2.1, 80, .inl (fun zz => nI (Ch zz))))] HZ) e32 hP
                have hD : va_D AZ [(sc, .inr (3, [.int (nI len), .ref ch, .int (nI (a0 Ch len p)), .int (nI (fV Ch len p)), .int (rdR Ch len ((e1 Ch len p) + 1) 4), .int (nI 0), .int (nI ((e2 Ch len p) + 1)), .int (nI 0), .int (nI fp)])), (ch, .inl (E.2.2.1, 80, .inl (fun zz => nI (Ch zz))))] := Eq.subst (motive := fun XX : Int32 => va_D AZ [(sc, .inr (3, [.int (nI len), .ref ch, .int (nI (a0 Ch len p)), .int XX, .int (rdR Ch len ((e1 Ch len p) + 1) 4), .int (nI 0), .int (nI ((e2 Ch len p) + 1)), .int (nI 0), .int (nI fp)])), (ch, .inl (E.2.2.1, 80, .inl (fun zz => nI (Ch zz))))]) e32 hD
                have e33 : (rdR Ch len ((e1 Ch len p) + 1) 4) = nI (qV Ch len p) := by first | rfl | (exact rd_pos k6)
                have hP : va_P E.1 vwCl [(sc, .inr (3, [.int (nI len), .ref ch, .int (nI (a0 Ch len p)), .int (nI (fV Ch len p)), .int (nI (qV Ch len p)), .int (nI 0), .int (nI ((e2 Ch len p) + 1)), .int (nI 0), .int (nI fp)])), (ch, .inl (E.2.2.1, 80, .inl (fun zz => nI (Ch zz))))] HZ := Eq.subst (motive := fun XX : Int32 => va_P E.1 vwCl [(sc, .inr (3, [.int (nI len), .ref ch, .int (nI (a0 Ch len p)), .int (nI (fV Ch len p)), .int XX, .int (nI 0), .int (nI ((e2 Ch len p) + 1)), .int (nI 0), .int (nI fp)])), (ch, .inl (E.2.2.1, 80, .inl (fun zz => nI (Ch zz))))] HZ) e33 hP
                have hD : va_D AZ [(sc, .inr (3, [.int (nI len), .ref ch, .int (nI (a0 Ch len p)), .int (nI (fV Ch len p)), .int (nI (qV Ch len p)), .int (nI 0), .int (nI ((e2 Ch len p) + 1)), .int (nI 0), .int (nI fp)])), (ch, .inl (E.2.2.1, 80, .inl (fun zz => nI (Ch zz))))] := Eq.subst (motive := fun XX : Int32 => va_D AZ [(sc, .inr (3, [.int (nI len), .ref ch, .int (nI (a0 Ch len p)), .int (nI (fV Ch len p)), .int XX, .int (nI 0), .int (nI ((e2 Ch len p) + 1)), .int (nI 0), .int (nI fp)])), (ch, .inl (E.2.2.1, 80, .inl (fun zz => nI (Ch zz))))]) e33 hD
                have e34 : (nI 0) = nI (tV Ch len p) := by first | rfl | (unfold tV; first | rw [if_pos k8]; exact rd_pos (k7 k8) | rw [if_neg k8])
                have hP : va_P E.1 vwCl [(sc, .inr (3, [.int (nI len), .ref ch, .int (nI (a0 Ch len p)), .int (nI (fV Ch len p)), .int (nI (qV Ch len p)), .int (nI (tV Ch len p)), .int (nI ((e2 Ch len p) + 1)), .int (nI 0), .int (nI fp)])), (ch, .inl (E.2.2.1, 80, .inl (fun zz => nI (Ch zz))))] HZ := Eq.subst (motive := fun XX : Int32 => va_P E.1 vwCl [(sc, .inr (3, [.int (nI len), .ref ch, .int (nI (a0 Ch len p)), .int (nI (fV Ch len p)), .int (nI (qV Ch len p)), .int XX, .int (nI ((e2 Ch len p) + 1)), .int (nI 0), .int (nI fp)])), (ch, .inl (E.2.2.1, 80, .inl (fun zz => nI (Ch zz))))] HZ) e34 hP
                have hD : va_D AZ [(sc, .inr (3, [.int (nI len), .ref ch, .int (nI (a0 Ch len p)), .int (nI (fV Ch len p)), .int (nI (qV Ch len p)), .int (nI (tV Ch len p)), .int (nI ((e2 Ch len p) + 1)), .int (nI 0), .int (nI fp)])), (ch, .inl (E.2.2.1, 80, .inl (fun zz => nI (Ch zz))))] := Eq.subst (motive := fun XX : Int32 => va_D AZ [(sc, .inr (3, [.int (nI len), .ref ch, .int (nI (a0 Ch len p)), .int (nI (fV Ch len p)), .int (nI (qV Ch len p)), .int XX, .int (nI ((e2 Ch len p) + 1)), .int (nI 0), .int (nI fp)])), (ch, .inl (E.2.2.1, 80, .inl (fun zz => nI (Ch zz))))]) e34 hD
                have e35 : nI ((e2 Ch len p) + 1) = nI (e3 Ch len p + 1) := by first | rfl | (rw [he3])
                have hP : va_P E.1 vwCl [(sc, .inr (3, [.int (nI len), .ref ch, .int (nI (a0 Ch len p)), .int (nI (fV Ch len p)), .int (nI (qV Ch len p)), .int (nI (tV Ch len p)), .int (nI (e3 Ch len p + 1)), .int (nI 0), .int (nI fp)])), (ch, .inl (E.2.2.1, 80, .inl (fun zz => nI (Ch zz))))] HZ := Eq.subst (motive := fun XX : Int32 => va_P E.1 vwCl [(sc, .inr (3, [.int (nI len), .ref ch, .int (nI (a0 Ch len p)), .int (nI (fV Ch len p)), .int (nI (qV Ch len p)), .int (nI (tV Ch len p)), .int XX, .int (nI 0), .int (nI fp)])), (ch, .inl (E.2.2.1, 80, .inl (fun zz => nI (Ch zz))))] HZ) e35 hP
                have hD : va_D AZ [(sc, .inr (3, [.int (nI len), .ref ch, .int (nI (a0 Ch len p)), .int (nI (fV Ch len p)), .int (nI (qV Ch len p)), .int (nI (tV Ch len p)), .int (nI (e3 Ch len p + 1)), .int (nI 0), .int (nI fp)])), (ch, .inl (E.2.2.1, 80, .inl (fun zz => nI (Ch zz))))] := Eq.subst (motive := fun XX : Int32 => va_D AZ [(sc, .inr (3, [.int (nI len), .ref ch, .int (nI (a0 Ch len p)), .int (nI (fV Ch len p)), .int (nI (qV Ch len p)), .int (nI (tV Ch len p)), .int XX, .int (nI 0), .int (nI fp)])), (ch, .inl (E.2.2.1, 80, .inl (fun zz => nI (Ch zz))))]) e35 hD
                have e36 : (nI 0) = told Ch len p := by first | rfl | (exact htd.symm)
                have hP : va_P E.1 vwCl [(sc, .inr (3, [.int (nI len), .ref ch, .int (nI (a0 Ch len p)), .int (nI (fV Ch len p)), .int (nI (qV Ch len p)), .int (nI (tV Ch len p)), .int (nI (e3 Ch len p + 1)), .int (told Ch len p), .int (nI fp)])), (ch, .inl (E.2.2.1, 80, .inl (fun zz => nI (Ch zz))))] HZ := Eq.subst (motive := fun XX : Int32 => va_P E.1 vwCl [(sc, .inr (3, [.int (nI len), .ref ch, .int (nI (a0 Ch len p)), .int (nI (fV Ch len p)), .int (nI (qV Ch len p)), .int (nI (tV Ch len p)), .int (nI (e3 Ch len p + 1)), .int XX, .int (nI fp)])), (ch, .inl (E.2.2.1, 80, .inl (fun zz => nI (Ch zz))))] HZ) e36 hP
                have hD : va_D AZ [(sc, .inr (3, [.int (nI len), .ref ch, .int (nI (a0 Ch len p)), .int (nI (fV Ch len p)), .int (nI (qV Ch len p)), .int (nI (tV Ch len p)), .int (nI (e3 Ch len p + 1)), .int (told Ch len p), .int (nI fp)])), (ch, .inl (E.2.2.1, 80, .inl (fun zz => nI (Ch zz))))] := Eq.subst (motive := fun XX : Int32 => va_D AZ [(sc, .inr (3, [.int (nI len), .ref ch, .int (nI (a0 Ch len p)), .int (nI (fV Ch len p)), .int (nI (qV Ch len p)), .int (nI (tV Ch len p)), .int (nI (e3 Ch len p + 1)), .int XX, .int (nI fp)])), (ch, .inl (E.2.2.1, 80, .inl (fun zz => nI (Ch zz))))]) e36 hD
                exact hret _ _ _ _ _ _ hP hS dX3_readNote_131 rfl (Or.inl ⟨rfl, ⟨k1, k2, k3, k4, k5, k6, k7, he3 ▸ (by assumption)⟩, rfl⟩)
              · -- 120 case 1
                have hP : va_P E.1 vwCl [(sc, .inr (3, [.int (nI len), .ref ch, .int (rdR Ch len p 1), .int (rdR Ch len ((e0 Ch len p) + 1) 2), .int (rdR Ch len ((e1 Ch len p) + 1) 4), .int (nI 0), .int (nI (e2 Ch len p)), .int (nI 0), .int (nI fp)])), (ch, .inl (E.2.2.1, 80, .inl (fun zz => nI (Ch zz))))] _ := hP
                have hD : va_D AZ [(sc, .inr (3, [.int (nI len), .ref ch, .int (rdR Ch len p 1), .int (rdR Ch len ((e0 Ch len p) + 1) 2), .int (rdR Ch len ((e1 Ch len p) + 1) 4), .int (nI 0), .int (nI (e2 Ch len p)), .int (nI 0), .int (nI fp)])), (ch, .inl (E.2.2.1, 80, .inl (fun zz => nI (Ch zz))))] := hD
                refine lv_if_eq (tgt := 130) hx hb dX3_readNote_123 (by decide) (fun _ => ?_) (fun c => absurd c (by decide))
                refine lv_iconst (v := nI 0) hx hb dX3_readNote_130 (by decide) ?_
                exact hret _ _ _ _ _ _ hP hS dX3_readNote_131 rfl (Or.inr (⟨(rdR Ch len p 1), (rdR Ch len ((e0 Ch len p) + 1) 2), (rdR Ch len ((e1 Ch len p) + 1) 4), (nI 0), (e2 Ch len p), (nI 0), rfl, by intro q; first | exact q.2.2.2.2.2.2.1 (by assumption) ((rd_neg hCh hlen (by omega)).mp (by assumption)) | exact absurd (he3 ▸ q.2.2.2.2.2.2.2) (by assumption), rfl⟩))
          · -- 75 f
            refine lv_iconst (v := nI 0) hx hb dX3_readNote_78 (by decide) ?_
            exact hret _ _ _ _ _ _ hP hS dX3_readNote_79 rfl (Or.inr (⟨(rdR Ch len p 1), (rdR Ch len ((e0 Ch len p) + 1) 2), (rdR Ch len ((e1 Ch len p) + 1) 4), ti, (e2 Ch len p), to, rfl, by intro q; first | exact absurd ((rd_str hCh hlen).mpr ⟨q.1, q.2.1⟩) (by assumption) | exact absurd q.2.2.1 (by assumption) | exact q.2.2.2.1 ((rd_neg hCh hlen (by omega)).mp (by assumption)) | exact absurd q.2.2.2.2.1 (by assumption) | exact q.2.2.2.2.2.1 ((rd_neg hCh hlen (by omega)).mp (Int32.not_le.mp (by assumption))), rfl⟩))
        · -- 54 case 1
          have hP : va_P E.1 vwCl [(sc, .inr (3, [.int (nI len), .ref ch, .int (rdR Ch len p 1), .int (rdR Ch len ((e0 Ch len p) + 1) 2), .int fo, .int ti, .int (nI (e1 Ch len p)), .int to, .int (nI fp)])), (ch, .inl (E.2.2.1, 80, .inl (fun zz => nI (Ch zz))))] _ := hP
          have hD : va_D AZ [(sc, .inr (3, [.int (nI len), .ref ch, .int (rdR Ch len p 1), .int (rdR Ch len ((e0 Ch len p) + 1) 2), .int fo, .int ti, .int (nI (e1 Ch len p)), .int to, .int (nI fp)])), (ch, .inl (E.2.2.1, 80, .inl (fun zz => nI (Ch zz))))] := hD
          refine lv_if_ne (tgt := 62) hx hb dX3_readNote_57 (by decide) (fun c => absurd c (by decide)) (fun _ => ?_)
          refine lv_iconst (v := nI 0) hx hb dX3_readNote_60 (by decide) ?_
          exact hret _ _ _ _ _ _ hP hS dX3_readNote_61 rfl (Or.inr (⟨(rdR Ch len p 1), (rdR Ch len ((e0 Ch len p) + 1) 2), fo, ti, (e1 Ch len p), to, rfl, by intro q; first | exact absurd ((rd_str hCh hlen).mpr ⟨q.1, q.2.1⟩) (by assumption) | exact absurd q.2.2.1 (by assumption) | exact q.2.2.2.1 ((rd_neg hCh hlen (by omega)).mp (by assumption)) | exact absurd q.2.2.2.2.1 (by assumption) | exact q.2.2.2.2.2.1 ((rd_neg hCh hlen (by omega)).mp (Int32.not_le.mp (by assumption))), rfl⟩))
    · -- 27 case 1
      have hP : va_P E.1 vwCl [(sc, .inr (3, [.int (nI len), .ref ch, .int (rdR Ch len p 1), .int fr, .int fo, .int ti, .int (nI (e0 Ch len p)), .int to, .int (nI fp)])), (ch, .inl (E.2.2.1, 80, .inl (fun zz => nI (Ch zz))))] _ := hP
      have hD : va_D AZ [(sc, .inr (3, [.int (nI len), .ref ch, .int (rdR Ch len p 1), .int fr, .int fo, .int ti, .int (nI (e0 Ch len p)), .int to, .int (nI fp)])), (ch, .inl (E.2.2.1, 80, .inl (fun zz => nI (Ch zz))))] := hD
      refine lv_if_ne (tgt := 35) hx hb dX3_readNote_30 (by decide) (fun c => absurd c (by decide)) (fun _ => ?_)
      refine lv_iconst (v := nI 0) hx hb dX3_readNote_33 (by decide) ?_
      exact hret _ _ _ _ _ _ hP hS dX3_readNote_34 rfl (Or.inr (⟨(rdR Ch len p 1), fr, fo, ti, (e0 Ch len p), to, rfl, by intro q; first | exact absurd ((rd_str hCh hlen).mpr ⟨q.1, q.2.1⟩) (by assumption) | exact absurd q.2.2.1 (by assumption) | exact q.2.2.2.1 ((rd_neg hCh hlen (by omega)).mp (by assumption)) | exact absurd q.2.2.2.2.1 (by assumption) | exact q.2.2.2.2.2.1 ((rd_neg hCh hlen (by omega)).mp (Int32.not_le.mp (by assumption))), rfl⟩))
  · -- 18 f
    refine lv_if_eq (tgt := 33) hx hb dX3_readNote_21 (by decide) (fun _ => ?_) (fun c => absurd c (by decide))
    refine lv_iconst (v := nI 0) hx hb dX3_readNote_33 (by decide) ?_
    exact hret _ _ _ _ _ _ hP hS dX3_readNote_34 rfl (Or.inr (⟨(rdR Ch len p 1), fr, fo, ti, (e0 Ch len p), to, rfl, by intro q; first | exact absurd ((rd_str hCh hlen).mpr ⟨q.1, q.2.1⟩) (by assumption) | exact absurd q.2.2.1 (by assumption) | exact q.2.2.2.1 ((rd_neg hCh hlen (by omega)).mp (by assumption)) | exact absurd q.2.2.2.2.1 (by assumption) | exact q.2.2.2.2.2.1 ((rd_neg hCh hlen (by omega)).mp (Int32.not_le.mp (by assumption))), rfl⟩))
theorem iwX3_reasonAt_X3_c_X3_reasonAt : ∀ w ∈ wsX30, w ∈ wsX3_reasonAt := by decide +kernel
set_option maxHeartbeats 1000000 in
set_option maxRecDepth 100000 in
theorem c_X3_reasonAt (l : Launch) (E : zE) (sc ch len pl fp p n tb : Nat) (st fr fo ti to : Int32) (Ch : Nat → Nat) (hCh : ∀ i, i < 80 → Ch i ≤ 126) (hlen : len ≤ 80) (hp : p ≤ 80) (hn : n ≤ 12) (htb : tb ≤ 1000000) : zM l yX3_reasonAt wsX3_reasonAt ({ frames := 3, cells := 0, slots := 0, locals := 65 }) E [.ref sc, .int (nI p), .int (nI n), .int (nI tb)] [(sc, .inr (3, [.int (nI len), .ref ch, .int st, .int fr, .int fo, .int ti, .int (nI pl), .int to, .int (nI fp)])), (ch, .inl (E.2.2.1, 80, .inl (fun zz => nI (Ch zz))))] (fun r w' => (r = nI 0 ∧ (rsN Ch len p n tb = 0) ∧ w' = [(sc, .inr (3, [.int (nI len), .ref ch, .int (nI (a0 Ch len p)), .int (nI (fV Ch len p)), .int (nI (qV Ch len p)), .int (nI (tV Ch len p)), .int (nI (e3 Ch len p + 1)), .int (told Ch len p), .int (nI fp)])), (ch, .inl (E.2.2.1, 80, .inl (fun zz => nI (Ch zz))))]) ∨ (∃ (st9 : Int32) (fr9 : Int32) (fo9 : Int32) (ti9 : Int32) (pl9 : Nat) (to9 : Int32) (r9 : Nat), r = nI r9 ∧ (r9 = rsN Ch len p n tb ∧ r9 ≠ 0 ∧ r9 ≤ 4) ∧ w' = [(sc, .inr (3, [.int (nI len), .ref ch, .int st9, .int fr9, .int fo9, .int ti9, .int (nI pl9), .int to9, .int (nI fp)])), (ch, .inl (E.2.2.1, 80, .inl (fun zz => nI (Ch zz))))])) := by
  refine zM.start (own := RX3) rfl (by decide +kernel) rfl (Nat.le_of_ble_eq_true rfl) (fun _ _ _ => rfl) ?_
  intro pZ eZ sZ mZ argsZ belowZ methZ cZ QZ AZ hF hret HZ locsZ hP hD hS hG ls hl
  obtain ⟨hx, hb, hml, hown, hts⟩ := id hF
  have hl : lv_has ls 4 [(0, .ref sc), (1, .int (nI p)), (2, .int (nI n)), (3, .int (nI tb))] := hl
  refine lv_aload_n hx hb dX3_reasonAt_0 rfl (lv_at hl 0 rfl) ?_
  refine lv_iload_n hx hb dX3_reasonAt_1 rfl (lv_at hl 1 rfl) ?_
  have hPc := zP_sub (w := [(sc, .inr (3, [.int (nI len), .ref ch, .int st, .int fr, .int fo, .int ti, .int (nI pl), .int to, .int (nI fp)])), (ch, .inl (E.2.2.1, 80, .inl (fun zz => nI (Ch zz))))]) hP [0, 1] rfl
  have hDc := zD_sub (w := [(sc, .inr (3, [.int (nI len), .ref ch, .int st, .int fr, .int fo, .int ti, .int (nI pl), .int to, .int (nI fp)])), (ch, .inl (E.2.2.1, 80, .inl (fun zz => nI (Ch zz))))]) hD [0, 1] (by decide) rfl
  refine z_md [0, 1] (va_runV (As := [.int (nI p)]) (rest := []) hF (c_X3_readNote l E sc ch len pl fp p st fr fo ti to Ch (hCh) (hlen) (by omega)) (cwV 1 hts gX3_reasonAt_X3_readNote rfl rfl rfl (by decide +kernel) ⟨Nat.le_of_ble_eq_true rfl, Nat.le_of_ble_eq_true rfl⟩) (z_preMV (va_recv hG.1 hP (ci := 3) (q0 := 0) rfl rfl) hPc hDc hG) rfl rfl hl.1 rfl (lv_room (Nat.le_of_ble_eq_true rfl)) dX3_reasonAt_2 ⟨Nat.zero_le _, Nat.zero_le _⟩) hP hD hS rfl (fun r1 w' HZ locsZ hr1 hP hD hS => ?_)
  rcases hr1 with ⟨rfl, c2, rfl⟩ | ⟨st9_4, fr9_5, fo9_6, ti9_7, pl9_8, to9_9, rfl, c3, rfl⟩
  · -- 2 case 0
    have hP : va_P E.1 vwCl [(sc, .inr (3, [.int (nI len), .ref ch, .int (nI (a0 Ch len p)), .int (nI (fV Ch len p)), .int (nI (qV Ch len p)), .int (nI (tV Ch len p)), .int (nI (e3 Ch len p + 1)), .int (told Ch len p), .int (nI fp)])), (ch, .inl (E.2.2.1, 80, .inl (fun zz => nI (Ch zz))))] _ := hP
    have hD : va_D AZ [(sc, .inr (3, [.int (nI len), .ref ch, .int (nI (a0 Ch len p)), .int (nI (fV Ch len p)), .int (nI (qV Ch len p)), .int (nI (tV Ch len p)), .int (nI (e3 Ch len p + 1)), .int (told Ch len p), .int (nI fp)])), (ch, .inl (E.2.2.1, 80, .inl (fun zz => nI (Ch zz))))] := hD
    have hok := c2
    have hfb := fV_b (p := p) hCh hlen
    have hqb := qV_b (p := p) hCh hlen
    have htb2 := tV_b (p := p) hCh hlen
    refine lv_if_ne (tgt := 10) hx hb dX3_reasonAt_5 (by decide) (fun _ => ?_) (fun c => absurd c (by decide))
    refine lv_aload_n hx hb dX3_reasonAt_10 rfl (lv_at hl 0 rfl) ?_
    refine va_get (D := E.1) (ci := 3) (v := .int (nI (fV Ch len p))) (C := RX3) (T := TX3) (N := 9) hx hb hts iwX3_reasonAt_X3_c_X3_reasonAt hown hG.1 hP 0 rfl rfl 3 (by decide) (hts (.fieldLink RX3 36 "FrettedStrings$Score" "fret" "I") (by decide +kernel)) (fun _ h9 => h9) rfl dX3_reasonAt_11 ?_
    refine lv_iload_n hx hb dX3_reasonAt_14 rfl (lv_at hl 2 rfl) ?_
    refine z_icmp_le (a := fV Ch len p) (b := n) (tgt := 20) hx hb dX3_reasonAt_15 (by decide) (by omega) (by omega) (fun c10 => ?_) (fun c10 => ?_)
    · -- 15 t
      refine lv_aload_n hx hb dX3_reasonAt_20 rfl (lv_at hl 0 rfl) ?_
      refine va_get (D := E.1) (ci := 3) (v := .int (nI (qV Ch len p))) (C := RX3) (T := TX3) (N := 9) hx hb hts iwX3_reasonAt_X3_c_X3_reasonAt hown hG.1 hP 0 rfl rfl 4 (by decide) (hts (.fieldLink RX3 39 "FrettedStrings$Score" "force" "I") (by decide +kernel)) (fun _ h9 => h9) rfl dX3_reasonAt_21 ?_
      refine lv_iconst (v := nI 1) hx hb dX3_reasonAt_24 (by decide) ?_
      refine lv_sipush (v := nI 1000) hx hb dX3_reasonAt_25 (by decide) ?_
      refine z_rd (fun _ h => h) (va_runSN (As := [.int (nI (qV Ch len p)), .int (nI 1), .int (nI 1000)]) (rest := []) hF (c_X6_isWithin l E (nI (qV Ch len p)) (nI 1) (nI 1000) ) ⟨va_cnB (host := RX6) 3 hts gX3_reasonAt_X6_isWithin_n42 rfl rfl rfl (hG.2 _ (List.mem_of_getElem? (i := 10) rfl)) (hts (.initialized RX6) (by decide +kernel)) (by decide +kernel) ⟨Nat.le_of_ble_eq_true rfl, Nat.le_of_ble_eq_true rfl⟩, hts (.static yX6_isWithin) (by decide +kernel), trivial⟩ (z_preR (fun k q h => by simp at h) hG) rfl rfl hl.1 rfl (lv_room (Nat.le_of_ble_eq_true rfl)) dX3_reasonAt_28 ⟨Nat.zero_le _, Nat.zero_le _⟩) (fun r11 hr11 => ?_)
      rcases hr11 with ⟨rfl, c12⟩ | ⟨rfl, c12⟩
      · -- 28 t
        have hq1 := (in_iff (by omega) (by omega) (by omega)).mp c12
        refine lv_if_eq (tgt := 55) hx hb dX3_reasonAt_31 (by decide) (fun c => absurd c (by decide)) (fun _ => ?_)
        refine lv_aload_n hx hb dX3_reasonAt_34 rfl (lv_at hl 0 rfl) ?_
        refine va_get (D := E.1) (ci := 3) (v := .int (told Ch len p)) (C := RX3) (T := TX3) (N := 9) hx hb hts iwX3_reasonAt_X3_c_X3_reasonAt hown hG.1 hP 0 rfl rfl 7 (by decide) (hts (.fieldLink RX3 46 "FrettedStrings$Score" "ticksAreTold" "Z") (by decide +kernel)) (fun _ h9 => h9) rfl dX3_reasonAt_35 ?_
        refine lv_if_eq (tgt := 57) hx hb dX3_reasonAt_38 (by decide) (fun c13 => ?_) (fun c13 => ?_)
        · -- 38 t
          have h3 : ¬ (¬ (1 ≤ qV Ch len p ∧ qV Ch len p ≤ 1000) ∨ (sgn Ch len (e2 Ch len p) = 43 ∧ ¬ (1 ≤ tV Ch len p ∧ tV Ch len p ≤ 500))) := fun q => q.elim (fun q => q hq1) (fun q => told_0 c13 q.1)
          refine lv_iload_n hx hb dX3_reasonAt_57 rfl (lv_at hl 3 rfl) ?_
          refine lv_aload_n hx hb dX3_reasonAt_58 rfl (lv_at hl 0 rfl) ?_
          refine va_get (D := E.1) (ci := 3) (v := .int (nI (tV Ch len p))) (C := RX3) (T := TX3) (N := 9) hx hb hts iwX3_reasonAt_X3_c_X3_reasonAt hown hG.1 hP 0 rfl rfl 5 (by decide) (hts (.fieldLink RX3 26 "FrettedStrings$Score" "ticks" "I") (by decide +kernel)) (fun _ h9 => h9) rfl dX3_reasonAt_59 ?_
          refine z_iadd (a := tb) (b := tV Ch len p) hx hb dX3_reasonAt_62 ?_
          refine lv_ldc (v := nI 100000) hx hb hown (hts (.constant RX3 50 100000) (by decide +kernel)) dX3_reasonAt_63 ?_
          refine z_icmp_le (a := tb + (tV Ch len p)) (b := 100000) (tgt := 72) hx hb dX3_reasonAt_65 (by decide) (by omega) (by omega) (fun c14 => ?_) (fun c14 => ?_)
          · -- 65 t
            refine lv_iconst (v := nI 0) hx hb dX3_reasonAt_72 (by decide) ?_
            exact hret _ _ _ _ _ _ hP hS dX3_reasonAt_73 rfl (Or.inl ⟨rfl, by unfold rsN; rw [if_neg (Classical.not_not.mpr hok), if_neg (by omega), if_neg h3, if_neg (by omega)], rfl⟩)
          · -- 65 f
            refine lv_iconst (v := nI 4) hx hb dX3_reasonAt_68 (by decide) ?_
            refine lv_goto (tgt := 73) hx hb dX3_reasonAt_69 (by decide) ?_
            exact hret _ _ _ _ _ _ hP hS dX3_reasonAt_73 rfl (Or.inr (⟨(nI (a0 Ch len p)), (nI (fV Ch len p)), (nI (qV Ch len p)), (nI (tV Ch len p)), (e3 Ch len p + 1), (told Ch len p), 4, rfl, ⟨by unfold rsN; rw [if_neg (Classical.not_not.mpr hok), if_neg (by omega), if_neg h3, if_pos (by omega)], by omega, by omega⟩, rfl⟩))
        · -- 38 f
          have h43 := told_1 c13
          refine lv_aload_n hx hb dX3_reasonAt_41 rfl (lv_at hl 0 rfl) ?_
          refine va_get (D := E.1) (ci := 3) (v := .int (nI (tV Ch len p))) (C := RX3) (T := TX3) (N := 9) hx hb hts iwX3_reasonAt_X3_c_X3_reasonAt hown hG.1 hP 0 rfl rfl 5 (by decide) (hts (.fieldLink RX3 26 "FrettedStrings$Score" "ticks" "I") (by decide +kernel)) (fun _ h9 => h9) rfl dX3_reasonAt_42 ?_
          refine lv_iconst (v := nI 1) hx hb dX3_reasonAt_45 (by decide) ?_
          refine lv_sipush (v := nI 500) hx hb dX3_reasonAt_46 (by decide) ?_
          refine z_rd (fun _ h => h) (va_runSN (As := [.int (nI (tV Ch len p)), .int (nI 1), .int (nI 500)]) (rest := []) hF (c_X6_isWithin l E (nI (tV Ch len p)) (nI 1) (nI 500) ) ⟨va_cnB (host := RX6) 3 hts gX3_reasonAt_X6_isWithin_n42 rfl rfl rfl (hG.2 _ (List.mem_of_getElem? (i := 10) rfl)) (hts (.initialized RX6) (by decide +kernel)) (by decide +kernel) ⟨Nat.le_of_ble_eq_true rfl, Nat.le_of_ble_eq_true rfl⟩, hts (.static yX6_isWithin) (by decide +kernel), trivial⟩ (z_preR (fun k q h => by simp at h) hG) rfl rfl hl.1 rfl (lv_room (Nat.le_of_ble_eq_true rfl)) dX3_reasonAt_49 ⟨Nat.zero_le _, Nat.zero_le _⟩) (fun r15 hr15 => ?_)
          rcases hr15 with ⟨rfl, c16⟩ | ⟨rfl, c16⟩
          · -- 49 t
            have hq2 := (in_iff (by omega) (by omega) (by omega)).mp c16
            have h3 : ¬ (¬ (1 ≤ qV Ch len p ∧ qV Ch len p ≤ 1000) ∨ (sgn Ch len (e2 Ch len p) = 43 ∧ ¬ (1 ≤ tV Ch len p ∧ tV Ch len p ≤ 500))) := fun q => q.elim (fun q => q hq1) (fun q => q.2 hq2)
            refine lv_if_ne (tgt := 57) hx hb dX3_reasonAt_52 (by decide) (fun _ => ?_) (fun c => absurd c (by decide))
            refine lv_iload_n hx hb dX3_reasonAt_57 rfl (lv_at hl 3 rfl) ?_
            refine lv_aload_n hx hb dX3_reasonAt_58 rfl (lv_at hl 0 rfl) ?_
            refine va_get (D := E.1) (ci := 3) (v := .int (nI (tV Ch len p))) (C := RX3) (T := TX3) (N := 9) hx hb hts iwX3_reasonAt_X3_c_X3_reasonAt hown hG.1 hP 0 rfl rfl 5 (by decide) (hts (.fieldLink RX3 26 "FrettedStrings$Score" "ticks" "I") (by decide +kernel)) (fun _ h9 => h9) rfl dX3_reasonAt_59 ?_
            refine z_iadd (a := tb) (b := tV Ch len p) hx hb dX3_reasonAt_62 ?_
            refine lv_ldc (v := nI 100000) hx hb hown (hts (.constant RX3 50 100000) (by decide +kernel)) dX3_reasonAt_63 ?_
            refine z_icmp_le (a := tb + (tV Ch len p)) (b := 100000) (tgt := 72) hx hb dX3_reasonAt_65 (by decide) (by omega) (by omega) (fun c17 => ?_) (fun c17 => ?_)
            · -- 65 t
              refine lv_iconst (v := nI 0) hx hb dX3_reasonAt_72 (by decide) ?_
              exact hret _ _ _ _ _ _ hP hS dX3_reasonAt_73 rfl (Or.inl ⟨rfl, by unfold rsN; rw [if_neg (Classical.not_not.mpr hok), if_neg (by omega), if_neg h3, if_neg (by omega)], rfl⟩)
            · -- 65 f
              refine lv_iconst (v := nI 4) hx hb dX3_reasonAt_68 (by decide) ?_
              refine lv_goto (tgt := 73) hx hb dX3_reasonAt_69 (by decide) ?_
              exact hret _ _ _ _ _ _ hP hS dX3_reasonAt_73 rfl (Or.inr (⟨(nI (a0 Ch len p)), (nI (fV Ch len p)), (nI (qV Ch len p)), (nI (tV Ch len p)), (e3 Ch len p + 1), (told Ch len p), 4, rfl, ⟨by unfold rsN; rw [if_neg (Classical.not_not.mpr hok), if_neg (by omega), if_neg h3, if_pos (by omega)], by omega, by omega⟩, rfl⟩))
          · -- 49 f
            have h3 : ¬ (1 ≤ qV Ch len p ∧ qV Ch len p ≤ 1000) ∨ (sgn Ch len (e2 Ch len p) = 43 ∧ ¬ (1 ≤ tV Ch len p ∧ tV Ch len p ≤ 500)) := Or.inr ⟨h43, fun q => c16 ((in_iff (by omega) (by omega) (by omega)).mpr q)⟩
            refine lv_if_ne (tgt := 57) hx hb dX3_reasonAt_52 (by decide) (fun c => absurd c (by decide)) (fun _ => ?_)
            refine lv_iconst (v := nI 3) hx hb dX3_reasonAt_55 (by decide) ?_
            exact hret _ _ _ _ _ _ hP hS dX3_reasonAt_56 rfl (Or.inr (⟨(nI (a0 Ch len p)), (nI (fV Ch len p)), (nI (qV Ch len p)), (nI (tV Ch len p)), (e3 Ch len p + 1), (told Ch len p), 3, rfl, ⟨by unfold rsN; rw [if_neg (Classical.not_not.mpr hok), if_neg (by omega), if_pos h3], by omega, by omega⟩, rfl⟩))
      · -- 28 f
        have h3 : ¬ (1 ≤ qV Ch len p ∧ qV Ch len p ≤ 1000) ∨ (sgn Ch len (e2 Ch len p) = 43 ∧ ¬ (1 ≤ tV Ch len p ∧ tV Ch len p ≤ 500)) := Or.inl (fun q => c12 ((in_iff (by omega) (by omega) (by omega)).mpr q))
        refine lv_if_eq (tgt := 55) hx hb dX3_reasonAt_31 (by decide) (fun _ => ?_) (fun c => absurd c (by decide))
        refine lv_iconst (v := nI 3) hx hb dX3_reasonAt_55 (by decide) ?_
        exact hret _ _ _ _ _ _ hP hS dX3_reasonAt_56 rfl (Or.inr (⟨(nI (a0 Ch len p)), (nI (fV Ch len p)), (nI (qV Ch len p)), (nI (tV Ch len p)), (e3 Ch len p + 1), (told Ch len p), 3, rfl, ⟨by unfold rsN; rw [if_neg (Classical.not_not.mpr hok), if_neg (by omega), if_pos h3], by omega, by omega⟩, rfl⟩))
    · -- 15 f
      refine lv_iconst (v := nI 2) hx hb dX3_reasonAt_18 (by decide) ?_
      exact hret _ _ _ _ _ _ hP hS dX3_reasonAt_19 rfl (Or.inr (⟨(nI (a0 Ch len p)), (nI (fV Ch len p)), (nI (qV Ch len p)), (nI (tV Ch len p)), (e3 Ch len p + 1), (told Ch len p), 2, rfl, ⟨by unfold rsN; rw [if_neg (Classical.not_not.mpr hok), if_pos (by assumption)], by omega, by omega⟩, rfl⟩))
  · -- 2 case 1
    have hP : va_P E.1 vwCl [(sc, .inr (3, [.int (nI len), .ref ch, .int st9_4, .int fr9_5, .int fo9_6, .int ti9_7, .int (nI pl9_8), .int to9_9, .int (nI fp)])), (ch, .inl (E.2.2.1, 80, .inl (fun zz => nI (Ch zz))))] _ := hP
    have hD : va_D AZ [(sc, .inr (3, [.int (nI len), .ref ch, .int st9_4, .int fr9_5, .int fo9_6, .int ti9_7, .int (nI pl9_8), .int to9_9, .int (nI fp)])), (ch, .inl (E.2.2.1, 80, .inl (fun zz => nI (Ch zz))))] := hD
    refine lv_if_ne (tgt := 10) hx hb dX3_reasonAt_5 (by decide) (fun c => absurd c (by decide)) (fun _ => ?_)
    refine lv_iconst (v := nI 1) hx hb dX3_reasonAt_8 (by decide) ?_
    exact hret _ _ _ _ _ _ hP hS dX3_reasonAt_9 rfl (Or.inr (⟨st9_4, fr9_5, fo9_6, ti9_7, pl9_8, to9_9, 1, rfl, ⟨by unfold rsN; rw [if_pos (by assumption)], by omega, by omega⟩, rfl⟩))
theorem iwX3_findFault_X3_c_X3_findFault : ∀ w ∈ wsX30, w ∈ wsX3_findFault := by decide +kernel
set_option maxHeartbeats 1000000 in
set_option maxRecDepth 100000 in
theorem c_X3_findFault (l : Launch) (E : zE) (sc ch len pl fp n tb : Nat) (st fr fo ti to : Int32) (Ch : Nat → Nat) (hCh : ∀ i, i < 80 → Ch i ≤ 126) (hlen : len ≤ 80) (hn : n ≤ 12) (htb : tb ≤ 100000) : zM l yX3_findFault wsX3_findFault ({ frames := 4, cells := 0, slots := 0, locals := 88 }) E [.ref sc, .int (nI n), .int (nI tb)] [(sc, .inr (3, [.int (nI len), .ref ch, .int st, .int fr, .int fo, .int ti, .int (nI pl), .int to, .int (nI fp)])), (ch, .inl (E.2.2.1, 80, .inl (fun zz => nI (Ch zz))))] (fun r w' => (∃ (st9 : Int32) (fr9 : Int32) (fo9 : Int32) (ti9 : Int32) (pl9 : Nat) (to9 : Int32), r = nI 0 ∧ ((ffN Ch len n 80 0 tb).1 = 0) ∧ w' = [(sc, .inr (3, [.int (nI len), .ref ch, .int st9, .int fr9, .int fo9, .int ti9, .int (nI pl9), .int to9, .int (nI fp)])), (ch, .inl (E.2.2.1, 80, .inl (fun zz => nI (Ch zz))))]) ∨ (∃ (st9 : Int32) (fr9 : Int32) (fo9 : Int32) (ti9 : Int32) (pl9 : Nat) (to9 : Int32) (r9 : Nat) (fp9 : Nat), r = nI r9 ∧ (r9 = (ffN Ch len n 80 0 tb).1 ∧ r9 ≠ 0 ∧ r9 ≤ 4 ∧ fp9 = (ffN Ch len n 80 0 tb).2) ∧ w' = [(sc, .inr (3, [.int (nI len), .ref ch, .int st9, .int fr9, .int fo9, .int ti9, .int (nI pl9), .int to9, .int (nI fp9)])), (ch, .inl (E.2.2.1, 80, .inl (fun zz => nI (Ch zz))))])) := by
  refine zM.start (own := RX3) rfl (by decide +kernel) rfl (Nat.le_of_ble_eq_true rfl) (fun _ _ _ => rfl) ?_
  intro pZ eZ sZ mZ argsZ belowZ methZ cZ QZ AZ hF hret HZ locsZ hP hD hS hG ls hl
  obtain ⟨hx, hb, hml, hown, hts⟩ := id hF
  have hl : lv_has ls 7 [(0, .ref sc), (1, .int (nI n)), (2, .int (nI tb))] := hl
  refine lv_iconst (v := nI 0) hx hb dX3_findFault_0 (by decide) ?_
  refine lv_istore_n (lv' := [(3, .int (nI 0)), (0, .ref sc), (1, .int (nI n)), (2, .int (nI tb))]) hx hb dX3_findFault_1 rfl hl (by decide) rfl (fun ls hl => ?_)
  refine lv_iload_n hx hb dX3_findFault_2 rfl (lv_at hl 3 rfl) ?_
  refine lv_istore (lv' := [(4, .int (nI tb)), (3, .int (nI 0)), (0, .ref sc), (1, .int (nI n)), (2, .int (nI tb))]) hx hb dX3_findFault_3 hl (by decide) rfl (fun ls hl => ?_)
  refine lv_iconst (v := nI 0) hx hb dX3_findFault_5 (by decide) ?_
  refine lv_istore (lv' := [(5, .int (nI 0)), (4, .int (nI tb)), (3, .int (nI 0)), (0, .ref sc), (1, .int (nI n)), (2, .int (nI tb))]) hx hb dX3_findFault_6 hl (by decide) rfl (fun ls hl => ?_)
  have L8_1 : ∀ (fuelZ : Nat) (p : Nat) (t : Nat) (j : Nat) (s1 : Int32) (s2 : Int32) (s3 : Int32) (s4 : Int32) (s5 : Nat) (s6 : Int32), 80 - j < fuelZ → (j ≤ p) → (p ≤ len) → (j ≤ 80) → (t ≤ 100000) → (ffN Ch len n 80 0 tb = ffN Ch len n (80 - j) p t) → ∀ (HZ : Heap) (locsZ : List Loc), va_P E.1 vwCl [(sc, .inr (3, [.int (nI len), .ref ch, .int s1, .int s2, .int s3, .int s4, .int (nI s5), .int s6, .int (nI fp)])), (ch, .inl (E.2.2.1, 80, .inl (fun zz => nI (Ch zz))))] HZ → va_D AZ [(sc, .inr (3, [.int (nI len), .ref ch, .int s1, .int s2, .int s3, .int s4, .int (nI s5), .int s6, .int (nI fp)])), (ch, .inl (E.2.2.1, 80, .inl (fun zz => nI (Ch zz))))] → va_S AZ sZ.heap HZ locsZ → ∀ ls : Array Slot, lv_has ls 7 [(5, .int (nI j)), (4, .int (nI t)), (3, .int (nI p)), (0, .ref sc), (1, .int (nI n)), (2, .int (nI tb))] → W pZ l eZ ({ frames := 4, cells := 0, slots := 0, locals := 88 }) sZ mZ argsZ belowZ methZ cZ HZ locsZ 0 0 QZ (F0 mZ 8 ls []) := by
    intro fuelZ
    induction fuelZ with
    | zero => intro p t j s1 s2 s3 s4 s5 s6 hm; exact absurd hm (Nat.not_lt_zero _)
    | succ fuelZ ih8 =>
      intro p t j s1 s2 s3 s4 s5 s6 hm i0 i1 i2 i3 hI HZ locsZ hP hD hS ls hl
      refine lv_iload hx hb dX3_findFault_8 (lv_at hl 0 rfl) ?_
      refine lv_bipush (v := nI 80) hx hb dX3_findFault_10 (by decide) ?_
      refine z_icmp_ge (a := j) (b := 80) (tgt := 66) hx hb dX3_findFault_12 (by decide) (by omega) (by omega) (fun c2 => ?_) (fun c2 => ?_)
      · -- 12 t
        refine lv_iconst (v := nI 0) hx hb dX3_findFault_66 (by decide) ?_
        exact hret _ _ _ _ _ _ hP hS dX3_findFault_67 rfl (Or.inl ⟨s1, s2, s3, s4, s5, s6, rfl, by rw [hI]; exact ff_z (by omega), rfl⟩)
      · -- 12 f
        refine lv_iload_n hx hb dX3_findFault_15 rfl (lv_at hl 2 rfl) ?_
        refine lv_aload_n hx hb dX3_findFault_16 rfl (lv_at hl 3 rfl) ?_
        refine va_get (D := E.1) (ci := 3) (v := .int (nI len)) (C := RX3) (T := TX3) (N := 9) hx hb hts iwX3_findFault_X3_c_X3_findFault hown hG.1 hP 0 rfl rfl 0 (by decide) (hts (.fieldLink RX3 15 "FrettedStrings$Score" "length" "I") (by decide +kernel)) (fun _ h9 => h9) rfl dX3_findFault_17 ?_
        refine z_icmp_ge (a := p) (b := len) (tgt := 66) hx hb dX3_findFault_20 (by decide) (by omega) (by omega) (fun c3 => ?_) (fun c3 => ?_)
        · -- 20 t
          refine lv_iconst (v := nI 0) hx hb dX3_findFault_66 (by decide) ?_
          exact hret _ _ _ _ _ _ hP hS dX3_findFault_67 rfl (Or.inl ⟨s1, s2, s3, s4, s5, s6, rfl, by rw [hI]; exact ff_z (by omega), rfl⟩)
        · -- 20 f
          refine lv_aload_n hx hb dX3_findFault_23 rfl (lv_at hl 3 rfl) ?_
          refine lv_iload_n hx hb dX3_findFault_24 rfl (lv_at hl 2 rfl) ?_
          refine lv_iload_n hx hb dX3_findFault_25 rfl (lv_at hl 4 rfl) ?_
          refine lv_iload hx hb dX3_findFault_26 (lv_at hl 1 rfl) ?_
          have hPc := zP_sub (w := [(sc, .inr (3, [.int (nI len), .ref ch, .int s1, .int s2, .int s3, .int s4, .int (nI s5), .int s6, .int (nI fp)])), (ch, .inl (E.2.2.1, 80, .inl (fun zz => nI (Ch zz))))]) hP [0, 1] rfl
          have hDc := zD_sub (w := [(sc, .inr (3, [.int (nI len), .ref ch, .int s1, .int s2, .int s3, .int s4, .int (nI s5), .int s6, .int (nI fp)])), (ch, .inl (E.2.2.1, 80, .inl (fun zz => nI (Ch zz))))]) hD [0, 1] (by decide) rfl
          refine z_md [0, 1] (va_runV (As := [.int (nI p), .int (nI n), .int (nI t)]) (rest := []) hF (c_X3_reasonAt l E sc ch len s5 fp p n t s1 s2 s3 s4 s6 Ch (hCh) (hlen) (by omega) (by omega) (by omega)) (cwV 3 hts gX3_findFault_X3_reasonAt rfl rfl rfl (by decide +kernel) ⟨Nat.le_of_ble_eq_true rfl, Nat.le_of_ble_eq_true rfl⟩) (z_preMV (va_recv hG.1 hP (ci := 3) (q0 := 0) rfl rfl) hPc hDc hG) rfl rfl hl.1 rfl (lv_room (Nat.le_of_ble_eq_true rfl)) dX3_findFault_28 ⟨Nat.zero_le _, Nat.zero_le _⟩) hP hD hS rfl (fun r4 w' HZ locsZ hr4 hP hD hS => ?_)
          rcases hr4 with ⟨rfl, c5, rfl⟩ | ⟨st9_7, fr9_8, fo9_9, ti9_10, pl9_11, to9_12, r9_13, rfl, c6, rfl⟩
          · -- 28 case 0
            have hP : va_P E.1 vwCl [(sc, .inr (3, [.int (nI len), .ref ch, .int (nI (a0 Ch len p)), .int (nI (fV Ch len p)), .int (nI (qV Ch len p)), .int (nI (tV Ch len p)), .int (nI (e3 Ch len p + 1)), .int (told Ch len p), .int (nI fp)])), (ch, .inl (E.2.2.1, 80, .inl (fun zz => nI (Ch zz))))] _ := hP
            have hD : va_D AZ [(sc, .inr (3, [.int (nI len), .ref ch, .int (nI (a0 Ch len p)), .int (nI (fV Ch len p)), .int (nI (qV Ch len p)), .int (nI (tV Ch len p)), .int (nI (e3 Ch len p + 1)), .int (told Ch len p), .int (nI fp)])), (ch, .inl (E.2.2.1, 80, .inl (fun zz => nI (Ch zz))))] := hD
            have hz := c5
            refine lv_istore (lv' := [(6, .int (nI 0)), (5, .int (nI j)), (4, .int (nI t)), (3, .int (nI p)), (0, .ref sc), (1, .int (nI n)), (2, .int (nI tb))]) hx hb dX3_findFault_31 hl (by decide) rfl (fun ls hl => ?_)
            refine lv_iload hx hb dX3_findFault_33 (lv_at hl 0 rfl) ?_
            refine lv_if_eq (tgt := 46) hx hb dX3_findFault_35 (by decide) (fun _ => ?_) (fun c => absurd c (by decide))
            have hok2 := rs_ok hz
            refine lv_iload hx hb dX3_findFault_46 (lv_at hl 2 rfl) ?_
            refine lv_aload_n hx hb dX3_findFault_48 rfl (lv_at hl 4 rfl) ?_
            refine va_get (D := E.1) (ci := 3) (v := .int (nI (tV Ch len p))) (C := RX3) (T := TX3) (N := 9) hx hb hts iwX3_findFault_X3_c_X3_findFault hown hG.1 hP 0 rfl rfl 5 (by decide) (hts (.fieldLink RX3 26 "FrettedStrings$Score" "ticks" "I") (by decide +kernel)) (fun _ h9 => h9) rfl dX3_findFault_49 ?_
            refine z_iadd (a := t) (b := tV Ch len p) hx hb dX3_findFault_52 ?_
            refine lv_istore (lv' := [(4, .int (nI (t + (tV Ch len p)))), (6, .int (nI 0)), (5, .int (nI j)), (3, .int (nI p)), (0, .ref sc), (1, .int (nI n)), (2, .int (nI tb))]) hx hb dX3_findFault_53 hl (by decide) rfl (fun ls hl => ?_)
            refine lv_aload_n hx hb dX3_findFault_55 rfl (lv_at hl 4 rfl) ?_
            refine va_get (D := E.1) (ci := 3) (v := .int (nI (e3 Ch len p + 1))) (C := RX3) (T := TX3) (N := 9) hx hb hts iwX3_findFault_X3_c_X3_findFault hown hG.1 hP 0 rfl rfl 6 (by decide) (hts (.fieldLink RX3 29 "FrettedStrings$Score" "place" "I") (by decide +kernel)) (fun _ h9 => h9) rfl dX3_findFault_56 ?_
            refine lv_istore_n (lv' := [(3, .int (nI (e3 Ch len p + 1))), (4, .int (nI (t + (tV Ch len p)))), (6, .int (nI 0)), (5, .int (nI j)), (0, .ref sc), (1, .int (nI n)), (2, .int (nI tb))]) hx hb dX3_findFault_59 rfl hl (by decide) rfl (fun ls hl => ?_)
            refine z_iinc (k := 3) (d := 1) (lv' := [(5, .int (nI (j + 1))), (3, .int (nI (e3 Ch len p + 1))), (4, .int (nI (t + (tV Ch len p)))), (6, .int (nI 0)), (0, .ref sc), (1, .int (nI n)), (2, .int (nI tb))]) hx hb dX3_findFault_60 (by decide) hl rfl (by decide) rfl (fun ls hl => ?_)
            refine lv_goto (tgt := 8) hx hb dX3_findFault_63 (by decide) ?_
            have e14 : nI (a0 Ch len p) = (nI (a0 Ch len p)) := by first | rfl | (rfl)
            have hP : va_P E.1 vwCl [(sc, .inr (3, [.int (nI len), .ref ch, .int (nI (a0 Ch len p)), .int (nI (fV Ch len p)), .int (nI (qV Ch len p)), .int (nI (tV Ch len p)), .int (nI (e3 Ch len p + 1)), .int (told Ch len p), .int (nI fp)])), (ch, .inl (E.2.2.1, 80, .inl (fun zz => nI (Ch zz))))] HZ := Eq.subst (motive := fun XX : Int32 => va_P E.1 vwCl [(sc, .inr (3, [.int (nI len), .ref ch, .int XX, .int (nI (fV Ch len p)), .int (nI (qV Ch len p)), .int (nI (tV Ch len p)), .int (nI (e3 Ch len p + 1)), .int (told Ch len p), .int (nI fp)])), (ch, .inl (E.2.2.1, 80, .inl (fun zz => nI (Ch zz))))] HZ) e14 hP
            have hD : va_D AZ [(sc, .inr (3, [.int (nI len), .ref ch, .int (nI (a0 Ch len p)), .int (nI (fV Ch len p)), .int (nI (qV Ch len p)), .int (nI (tV Ch len p)), .int (nI (e3 Ch len p + 1)), .int (told Ch len p), .int (nI fp)])), (ch, .inl (E.2.2.1, 80, .inl (fun zz => nI (Ch zz))))] := Eq.subst (motive := fun XX : Int32 => va_D AZ [(sc, .inr (3, [.int (nI len), .ref ch, .int XX, .int (nI (fV Ch len p)), .int (nI (qV Ch len p)), .int (nI (tV Ch len p)), .int (nI (e3 Ch len p + 1)), .int (told Ch len p), .int (nI fp)])), (ch, .inl (E.2.2.1, 80, .inl (fun zz => nI (Ch zz))))]) e14 hD
            have e15 : nI (fV Ch len p) = (nI (fV Ch len p)) := by first | rfl | (rfl)
            have hP : va_P E.1 vwCl [(sc, .inr (3, [.int (nI len), .ref ch, .int (nI (a0 Ch len p)), .int (nI (fV Ch len p)), .int (nI (qV Ch len p)), .int (nI (tV Ch len p)), .int (nI (e3 Ch len p + 1)), .int (told Ch len p), .int (nI fp)])), (ch, .inl (E.2.2.1, 80, .inl (fun zz => nI (Ch zz))))] HZ := Eq.subst (motive := fun XX : Int32 => va_P E.1 vwCl [(sc, .inr (3, [.int (nI len), .ref ch, .int (nI (a0 Ch len p)), .int XX, .int (nI (qV Ch len p)), .int (nI (tV Ch len p)), .int (nI (e3 Ch len p + 1)), .int (told Ch len p), .int (nI fp)])), (ch, .inl (E.2.2.1, 80, .inl (fun zz => nI (Ch zz))))] HZ) e15 hP
            have hD : va_D AZ [(sc, .inr (3, [.int (nI len), .ref ch, .int (nI (a0 Ch len p)), .int (nI (fV Ch len p)), .int (nI (qV Ch len p)), .int (nI (tV Ch len p)), .int (nI (e3 Ch len p + 1)), .int (told Ch len p), .int (nI fp)])), (ch, .inl (E.2.2.1, 80, .inl (fun zz => nI (Ch zz))))] := Eq.subst (motive := fun XX : Int32 => va_D AZ [(sc, .inr (3, [.int (nI len), .ref ch, .int (nI (a0 Ch len p)), .int XX, .int (nI (qV Ch len p)), .int (nI (tV Ch len p)), .int (nI (e3 Ch len p + 1)), .int (told Ch len p), .int (nI fp)])), (ch, .inl (E.2.2.1, 80, .inl (fun zz => nI (Ch zz))))]) e15 hD
            have e16 : nI (qV Ch len p) = (nI (qV Ch len p)) := by first | rfl | (rfl)
            have hP : va_P E.1 vwCl [(sc, .inr (3, [.int (nI len), .ref ch, .int (nI (a0 Ch len p)), .int (nI (fV Ch len p)), .int (nI (qV Ch len p)), .int (nI (tV Ch len p)), .int (nI (e3 Ch len p + 1)), .int (told Ch len p), .int (nI fp)])), (ch, .inl (E.2.2.1, 80, .inl (fun zz => nI (Ch zz))))] HZ := Eq.subst (motive := fun XX : Int32 => va_P E.1 vwCl [(sc, .inr (3, [.int (nI len), .ref ch, .int (nI (a0 Ch len p)), .int (nI (fV Ch len p)), .int XX, .int (nI (tV Ch len p)), .int (nI (e3 Ch len p + 1)), .int (told Ch len p), .int (nI fp)])), (ch, .inl (E.2.2.1, 80, .inl (fun zz => nI (Ch zz))))] HZ) e16 hP
            have hD : va_D AZ [(sc, .inr (3, [.int (nI len), .ref ch, .int (nI (a0 Ch len p)), .int (nI (fV Ch len p)), .int (nI (qV Ch len p)), .int (nI (tV Ch len p)), .int (nI (e3 Ch len p + 1)), .int (told Ch len p), .int (nI fp)])), (ch, .inl (E.2.2.1, 80, .inl (fun zz => nI (Ch zz))))] := Eq.subst (motive := fun XX : Int32 => va_D AZ [(sc, .inr (3, [.int (nI len), .ref ch, .int (nI (a0 Ch len p)), .int (nI (fV Ch len p)), .int XX, .int (nI (tV Ch len p)), .int (nI (e3 Ch len p + 1)), .int (told Ch len p), .int (nI fp)])), (ch, .inl (E.2.2.1, 80, .inl (fun zz => nI (Ch zz))))]) e16 hD
            have e17 : nI (tV Ch len p) = (nI (tV Ch len p)) := by first | rfl | (rfl)
            have hP : va_P E.1 vwCl [(sc, .inr (3, [.int (nI len), .ref ch, .int (nI (a0 Ch len p)), .int (nI (fV Ch len p)), .int (nI (qV Ch len p)), .int (nI (tV Ch len p)), .int (nI (e3 Ch len p + 1)), .int (told Ch len p), .int (nI fp)])), (ch, .inl (E.2.2.1, 80, .inl (fun zz => nI (Ch zz))))] HZ := Eq.subst (motive := fun XX : Int32 => va_P E.1 vwCl [(sc, .inr (3, [.int (nI len), .ref ch, .int (nI (a0 Ch len p)), .int (nI (fV Ch len p)), .int (nI (qV Ch len p)), .int XX, .int (nI (e3 Ch len p + 1)), .int (told Ch len p), .int (nI fp)])), (ch, .inl (E.2.2.1, 80, .inl (fun zz => nI (Ch zz))))] HZ) e17 hP
            have hD : va_D AZ [(sc, .inr (3, [.int (nI len), .ref ch, .int (nI (a0 Ch len p)), .int (nI (fV Ch len p)), .int (nI (qV Ch len p)), .int (nI (tV Ch len p)), .int (nI (e3 Ch len p + 1)), .int (told Ch len p), .int (nI fp)])), (ch, .inl (E.2.2.1, 80, .inl (fun zz => nI (Ch zz))))] := Eq.subst (motive := fun XX : Int32 => va_D AZ [(sc, .inr (3, [.int (nI len), .ref ch, .int (nI (a0 Ch len p)), .int (nI (fV Ch len p)), .int (nI (qV Ch len p)), .int XX, .int (nI (e3 Ch len p + 1)), .int (told Ch len p), .int (nI fp)])), (ch, .inl (E.2.2.1, 80, .inl (fun zz => nI (Ch zz))))]) e17 hD
            exact ih8 (e3 Ch len p + 1) (t + (tV Ch len p)) (j + 1) (nI (a0 Ch len p)) (nI (fV Ch len p)) (nI (qV Ch len p)) (nI (tV Ch len p)) (e3 Ch len p + 1) (told Ch len p) (by omega) (by have := (e3_lt hok2).1; omega) ((e3_lt hok2).2) (by omega) (rs_t hz) (ff_s hI (by omega) (by assumption) hz) _ _ hP hD hS _ (lv_sub hl [0, 2, 1, 4, 5, 6] rfl)
          · -- 28 case 1
            have hP : va_P E.1 vwCl [(sc, .inr (3, [.int (nI len), .ref ch, .int st9_7, .int fr9_8, .int fo9_9, .int ti9_10, .int (nI pl9_11), .int to9_12, .int (nI fp)])), (ch, .inl (E.2.2.1, 80, .inl (fun zz => nI (Ch zz))))] _ := hP
            have hD : va_D AZ [(sc, .inr (3, [.int (nI len), .ref ch, .int st9_7, .int fr9_8, .int fo9_9, .int ti9_10, .int (nI pl9_11), .int to9_12, .int (nI fp)])), (ch, .inl (E.2.2.1, 80, .inl (fun zz => nI (Ch zz))))] := hD
            refine lv_istore (lv' := [(6, .int (nI r9_13)), (5, .int (nI j)), (4, .int (nI t)), (3, .int (nI p)), (0, .ref sc), (1, .int (nI n)), (2, .int (nI tb))]) hx hb dX3_findFault_31 hl (by decide) rfl (fun ls hl => ?_)
            refine lv_iload hx hb dX3_findFault_33 (lv_at hl 0 rfl) ?_
            refine z_if_eq (a := r9_13) (tgt := 46) hx hb dX3_findFault_35 (by decide) (by omega) (fun c18 => ?_) (fun c18 => ?_)
            · -- 35 t
              omega
            · -- 35 f
              refine lv_aload_n hx hb dX3_findFault_38 rfl (lv_at hl 4 rfl) ?_
              refine lv_iload_n hx hb dX3_findFault_39 rfl (lv_at hl 3 rfl) ?_
              refine va_put (D := E.1) (ci := 3) (v := .int (nI p)) (ty := .int) (C := RX3) (T := TX3) (N := 9) hx hb hts iwX3_findFault_X3_c_X3_findFault tyX3 tyX3_ok nmX3 hown hG.1 hP hD hS 0 rfl rfl 8 (by decide) (hts (.fieldLink RX3 23 "FrettedStrings$Score" "faultPosition" "I") (by decide +kernel)) (fun _ h9 => h9) rfl (by decide +kernel) rfl rfl (Nat.le_of_ble_eq_true rfl) dX3_findFault_40 (fun HZ locsZ hP hD hS => ?_)
              have hP : va_P E.1 vwCl [(sc, .inr (3, [.int (nI len), .ref ch, .int st9_7, .int fr9_8, .int fo9_9, .int ti9_10, .int (nI pl9_11), .int to9_12, .int (nI p)])), (ch, .inl (E.2.2.1, 80, .inl (fun zz => nI (Ch zz))))] _ := hP
              have hD : va_D AZ [(sc, .inr (3, [.int (nI len), .ref ch, .int st9_7, .int fr9_8, .int fo9_9, .int ti9_10, .int (nI pl9_11), .int to9_12, .int (nI p)])), (ch, .inl (E.2.2.1, 80, .inl (fun zz => nI (Ch zz))))] := hD
              refine lv_iload hx hb dX3_findFault_43 (lv_at hl 0 rfl) ?_
              exact hret _ _ _ _ _ _ hP hS dX3_findFault_45 rfl (Or.inr (⟨st9_7, fr9_8, fo9_9, ti9_10, pl9_11, to9_12, r9_13, p, rfl, ⟨by rw [hI, ff_e (by omega) (by assumption) (by omega)]; omega, by omega, by omega, by rw [hI, ff_e (by omega) (by assumption) (by omega)]⟩, rfl⟩))
  exact L8_1 ((80 - 0) + 1) 0 tb 0 st fr fo ti pl to (Nat.lt_succ_self _) (by omega) (by omega) (by omega) (by omega) (rfl) _ _ hP hD hS _ (lv_sub hl [0, 1, 2, 3, 4, 5] rfl)
