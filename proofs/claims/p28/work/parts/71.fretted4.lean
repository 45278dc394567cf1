theorem iwX6_type_X6_c_X6_type : ∀ w ∈ wsX60, w ∈ wsX6_type := by decide +kernel
theorem iwX6_type_X3_c_X6_type : ∀ w ∈ wsX30, w ∈ wsX6_type := by decide +kernel
set_option maxHeartbeats 1000000 in
set_option maxRecDepth 100000 in
theorem c_X6_type (l : Launch) (E : zE) (fs sc hi ch len pl fp : Nat) (a : Int32) (ad : Nat → Nat) (X : Nat → Nat → Nat) (st fr fo ti to : Int32) (Ch : Nat → Nat) (hlen : len ≤ 80) : zM l yX6_type wsX6_type ({ frames := 1, cells := 0, slots := 0, locals := 22 }) E [.ref fs, .int a] [(fs, .inr (6, [.ref (ad 0), .ref hi, .ref sc])), (sc, .inr (3, [.int (nI len), .ref ch, .int st, .int fr, .int fo, .int ti, .int (nI pl), .int to, .int (nI fp)])), (ch, .inl (E.2.2.1, 80, .inl (fun zz => nI (Ch zz))))] (fun r w' => (r = (-1) ∧ (¬ (nI 32 ≤ a ∧ a ≤ nI 126)) ∧ w' = [(fs, .inr (6, [.ref (ad 0), .ref hi, .ref sc])), (sc, .inr (3, [.int (nI len), .ref ch, .int st, .int fr, .int fo, .int ti, .int (nI pl), .int to, .int (nI fp)])), (ch, .inl (E.2.2.1, 80, .inl (fun zz => nI (Ch zz))))]) ∨ (∃ (k : Nat), r = (-3) ∧ (a = nI k ∧ 32 ≤ k ∧ k ≤ 126 ∧ len = 80) ∧ w' = [(fs, .inr (6, [.ref (ad 0), .ref hi, .ref sc])), (sc, .inr (3, [.int (nI len), .ref ch, .int st, .int fr, .int fo, .int ti, .int (nI pl), .int to, .int (nI fp)])), (ch, .inl (E.2.2.1, 80, .inl (fun zz => nI (Ch zz))))]) ∨ (∃ (k : Nat), r = nI (len + 1) ∧ (a = nI k ∧ 32 ≤ k ∧ k ≤ 126 ∧ len < 80) ∧ w' = [(fs, .inr (6, [.ref (ad 0), .ref hi, .ref sc])), (sc, .inr (3, [.int (nI (len + 1)), .ref ch, .int st, .int fr, .int fo, .int ti, .int (nI pl), .int to, .int (nI fp)])), (ch, .inl (E.2.2.1, 80, .inl (fun zz => nI ((va_up Ch len k) zz))))])) := by
  refine zM.start (own := RX6) rfl (by decide +kernel) rfl (Nat.le_of_ble_eq_true rfl) (fun _ _ _ => rfl) ?_
  intro pZ eZ sZ mZ argsZ belowZ methZ cZ QZ AZ hF hret HZ locsZ hP hD hS hG ls hl
  obtain ⟨hx, hb, hml, hown, hts⟩ := id hF
  have hl : lv_has ls 2 [(0, .ref fs), (1, .int a)] := hl
  refine lv_iload_n hx hb dX6_type_0 rfl (lv_at hl 1 rfl) ?_
  refine lv_bipush (v := nI 32) hx hb dX6_type_1 (by decide) ?_
  refine lv_bipush (v := nI 126) hx hb dX6_type_3 (by decide) ?_
  refine z_rd (fun _ h => h) (va_runS (As := [.int a, .int (nI 32), .int (nI 126)]) (rest := []) hF (c_X6_isWithin l E a (nI 32) (nI 126) ) (va_cwS 3 hts gX6_type_X6_isWithin rfl rfl rfl (by decide +kernel) ⟨Nat.le_of_ble_eq_true rfl, Nat.le_of_ble_eq_true rfl⟩) (z_preR (fun k q h => by simp at h) hG) rfl rfl hl.1 rfl (lv_room (Nat.le_of_ble_eq_true rfl)) dX6_type_5 ⟨Nat.zero_le _, Nat.zero_le _⟩) (fun r1 hr1 => ?_)
  rcases hr1 with ⟨rfl, c2⟩ | ⟨rfl, c2⟩
  · -- 5 t
    obtain ⟨k, hk1, hk2, rfl⟩ := z_ge (by omega) (by omega) c2.1 c2.2
    refine lv_if_ne (tgt := 13) hx hb dX6_type_8 (by decide) (fun _ => ?_) (fun c => absurd c (by decide))
    refine lv_aload_n hx hb dX6_type_13 rfl (lv_at hl 0 rfl) ?_
    refine va_get (D := E.1) (ci := 6) (v := .ref sc) (C := RX6) (T := TX6) (N := 3) hx hb hts iwX6_type_X6_c_X6_type hown hG.1 hP 0 rfl rfl 2 (by decide) (hts (.fieldLink RX6 26 "FrettedStrings" "score" "LFrettedStrings$Score;") (by decide +kernel)) (fun _ h9 => h9) rfl dX6_type_14 ?_
    refine va_get (D := E.1) (ci := 3) (v := .int (nI len)) (C := RX3) (T := TX3) (N := 9) hx hb hts iwX6_type_X3_c_X6_type hown hG.1 hP 1 rfl rfl 0 (by decide) (hts (.fieldLink RX6 226 "FrettedStrings$Score" "length" "I") (by decide +kernel)) (fun _ h9 => h9) rfl dX6_type_17 ?_
    refine lv_bipush (v := nI 80) hx hb dX6_type_20 (by decide) ?_
    refine z_icmp_lt (a := len) (b := 80) (tgt := 28) hx hb dX6_type_22 (by decide) (by omega) (by omega) (fun c3 => ?_) (fun c3 => ?_)
    · -- 22 t
      refine lv_aload_n hx hb dX6_type_28 rfl (lv_at hl 0 rfl) ?_
      refine va_get (D := E.1) (ci := 6) (v := .ref sc) (C := RX6) (T := TX6) (N := 3) hx hb hts iwX6_type_X6_c_X6_type hown hG.1 hP 0 rfl rfl 2 (by decide) (hts (.fieldLink RX6 26 "FrettedStrings" "score" "LFrettedStrings$Score;") (by decide +kernel)) (fun _ h9 => h9) rfl dX6_type_29 ?_
      refine lv_iload_n hx hb dX6_type_32 rfl (lv_at hl 1 rfl) ?_
      refine z_i2c hx hb dX6_type_33 (by omega) ?_
      have hPc := zP_sub (w := [(sc, .inr (3, [.int (nI len), .ref ch, .int st, .int fr, .int fo, .int ti, .int (nI pl), .int to, .int (nI fp)])), (ch, .inl (E.2.2.1, 80, .inl (fun zz => nI (Ch zz))))]) hP [1, 2] rfl
      have hDc := zD_sub (w := [(sc, .inr (3, [.int (nI len), .ref ch, .int st, .int fr, .int fo, .int ti, .int (nI pl), .int to, .int (nI fp)])), (ch, .inl (E.2.2.1, 80, .inl (fun zz => nI (Ch zz))))]) hD [1, 2] (by decide) rfl
      refine z_vd [1, 2] (va_runV (As := [.int (nI k)]) (rest := []) hF (c_X3_append l E sc ch len pl fp k st fr fo ti to Ch (by first | assumption | omega) (by first | assumption | omega)) (cwV 1 hts gX6_type_X3_append rfl rfl rfl (by decide +kernel) ⟨Nat.le_of_ble_eq_true rfl, Nat.le_of_ble_eq_true rfl⟩) (z_preMV (va_recv hG.1 hP (ci := 3) (q0 := 1) rfl rfl) hPc hDc hG) rfl rfl hl.1 rfl (lv_room (Nat.le_of_ble_eq_true rfl)) dX6_type_34 ⟨Nat.zero_le _, Nat.zero_le _⟩) hP hD hS rfl (fun w' HZ locsZ hw hP hD hS => ?_)
      subst hw
      have hP : va_P E.1 vwCl [(fs, .inr (6, [.ref (ad 0), .ref hi, .ref sc])), (sc, .inr (3, [.int (nI (len + 1)), .ref ch, .int st, .int fr, .int fo, .int ti, .int (nI pl), .int to, .int (nI fp)])), (ch, .inl (E.2.2.1, 80, .inl (fun zz => nI ((va_up Ch len k) zz))))] _ := hP
      have hD : va_D AZ [(fs, .inr (6, [.ref (ad 0), .ref hi, .ref sc])), (sc, .inr (3, [.int (nI (len + 1)), .ref ch, .int st, .int fr, .int fo, .int ti, .int (nI pl), .int to, .int (nI fp)])), (ch, .inl (E.2.2.1, 80, .inl (fun zz => nI ((va_up Ch len k) zz))))] := hD
      refine lv_aload_n hx hb dX6_type_37 rfl (lv_at hl 0 rfl) ?_
      refine va_get (D := E.1) (ci := 6) (v := .ref sc) (C := RX6) (T := TX6) (N := 3) hx hb hts iwX6_type_X6_c_X6_type hown hG.1 hP 0 rfl rfl 2 (by decide) (hts (.fieldLink RX6 26 "FrettedStrings" "score" "LFrettedStrings$Score;") (by decide +kernel)) (fun _ h9 => h9) rfl dX6_type_38 ?_
      refine va_get (D := E.1) (ci := 3) (v := .int (nI (len + 1))) (C := RX3) (T := TX3) (N := 9) hx hb hts iwX6_type_X3_c_X6_type hown hG.1 hP 1 rfl rfl 0 (by decide) (hts (.fieldLink RX6 226 "FrettedStrings$Score" "length" "I") (by decide +kernel)) (fun _ h9 => h9) rfl dX6_type_41 ?_
      exact hret _ _ _ _ _ _ hP hS dX6_type_44 rfl (Or.inr (Or.inr (⟨k, rfl, ⟨rfl, by omega, by omega, by omega⟩, rfl⟩)))
    · -- 22 f
      refine lv_bipush (v := (-3)) hx hb dX6_type_25 (by decide) ?_
      exact hret _ _ _ _ _ _ hP hS dX6_type_27 rfl (Or.inr (Or.inl ⟨k, rfl, ⟨rfl, by omega, by omega, by omega⟩, rfl⟩))
  · -- 5 f
    refine lv_if_ne (tgt := 13) hx hb dX6_type_8 (by decide) (fun c => absurd c (by decide)) (fun _ => ?_)
    refine lv_iconst (v := (-1)) hx hb dX6_type_11 (by decide) ?_
    exact hret _ _ _ _ _ _ hP hS dX6_type_12 rfl (Or.inl ⟨rfl, by assumption, rfl⟩)
theorem iwX6_clearText_X6_c_X6_clearText : ∀ w ∈ wsX60, w ∈ wsX6_clearText := by decide +kernel
theorem iwX6_clearText_X3_c_X6_clearText : ∀ w ∈ wsX30, w ∈ wsX6_clearText := by decide +kernel
set_option maxHeartbeats 1000000 in
set_option maxRecDepth 100000 in
theorem c_X6_clearText (l : Launch) (E : zE) (fs sc hi ch len pl fp : Nat) (ad : Nat → Nat) (X : Nat → Nat → Nat) (st fr fo ti to : Int32) (Ch : Nat → Nat)  : zM l yX6_clearText wsX6_clearText ({ frames := 0, cells := 0, slots := 0, locals := 0 }) E [.ref fs] [(fs, .inr (6, [.ref (ad 0), .ref hi, .ref sc])), (sc, .inr (3, [.int (nI len), .ref ch, .int st, .int fr, .int fo, .int ti, .int (nI pl), .int to, .int (nI fp)])), (ch, .inl (E.2.2.1, 80, .inl (fun zz => nI (Ch zz))))] (fun r w' => r = nI len ∧ w' = [(fs, .inr (6, [.ref (ad 0), .ref hi, .ref sc])), (sc, .inr (3, [.int (nI 0), .ref ch, .int st, .int fr, .int fo, .int ti, .int (nI pl), .int to, .int (nI fp)])), (ch, .inl (E.2.2.1, 80, .inl (fun zz => nI (Ch zz))))]) := by
  refine zM.start (own := RX6) rfl (by decide +kernel) rfl (Nat.le_of_ble_eq_true rfl) (fun _ _ _ => rfl) ?_
  intro pZ eZ sZ mZ argsZ belowZ methZ cZ QZ AZ hF hret HZ locsZ hP hD hS hG ls hl
  obtain ⟨hx, hb, hml, hown, hts⟩ := id hF
  have hl : lv_has ls 2 [(0, .ref fs)] := hl
  refine lv_aload_n hx hb dX6_clearText_0 rfl (lv_at hl 0 rfl) ?_
  refine va_get (D := E.1) (ci := 6) (v := .ref sc) (C := RX6) (T := TX6) (N := 3) hx hb hts iwX6_clearText_X6_c_X6_clearText hown hG.1 hP 0 rfl rfl 2 (by decide) (hts (.fieldLink RX6 26 "FrettedStrings" "score" "LFrettedStrings$Score;") (by decide +kernel)) (fun _ h9 => h9) rfl dX6_clearText_1 ?_
  refine va_get (D := E.1) (ci := 3) (v := .int (nI len)) (C := RX3) (T := TX3) (N := 9) hx hb hts iwX6_clearText_X3_c_X6_clearText hown hG.1 hP 1 rfl rfl 0 (by decide) (hts (.fieldLink RX6 226 "FrettedStrings$Score" "length" "I") (by decide +kernel)) (fun _ h9 => h9) rfl dX6_clearText_4 ?_
  refine lv_istore_n (lv' := [(1, .int (nI len)), (0, .ref fs)]) hx hb dX6_clearText_7 rfl hl (by decide) rfl (fun ls hl => ?_)
  refine lv_aload_n hx hb dX6_clearText_8 rfl (lv_at hl 1 rfl) ?_
  refine va_get (D := E.1) (ci := 6) (v := .ref sc) (C := RX6) (T := TX6) (N := 3) hx hb hts iwX6_clearText_X6_c_X6_clearText hown hG.1 hP 0 rfl rfl 2 (by decide) (hts (.fieldLink RX6 26 "FrettedStrings" "score" "LFrettedStrings$Score;") (by decide +kernel)) (fun _ h9 => h9) rfl dX6_clearText_9 ?_
  refine lv_iconst (v := nI 0) hx hb dX6_clearText_12 (by decide) ?_
  refine va_put (D := E.1) (ci := 3) (v := .int (nI 0)) (ty := .int) (C := RX3) (T := TX3) (N := 9) hx hb hts iwX6_clearText_X3_c_X6_clearText tyX3 tyX3_ok nmX3 hown hG.1 hP hD hS 1 rfl rfl 0 (by decide) (hts (.fieldLink RX6 226 "FrettedStrings$Score" "length" "I") (by decide +kernel)) (fun _ h9 => h9) rfl (by decide +kernel) rfl rfl (Nat.le_of_ble_eq_true rfl) dX6_clearText_13 (fun HZ locsZ hP hD hS => ?_)
  have hP : va_P E.1 vwCl [(fs, .inr (6, [.ref (ad 0), .ref hi, .ref sc])), (sc, .inr (3, [.int (nI 0), .ref ch, .int st, .int fr, .int fo, .int ti, .int (nI pl), .int to, .int (nI fp)])), (ch, .inl (E.2.2.1, 80, .inl (fun zz => nI (Ch zz))))] _ := hP
  have hD : va_D AZ [(fs, .inr (6, [.ref (ad 0), .ref hi, .ref sc])), (sc, .inr (3, [.int (nI 0), .ref ch, .int st, .int fr, .int fo, .int ti, .int (nI pl), .int to, .int (nI fp)])), (ch, .inl (E.2.2.1, 80, .inl (fun zz => nI (Ch zz))))] := hD
  refine lv_iload_n hx hb dX6_clearText_16 rfl (lv_at hl 0 rfl) ?_
  exact hret _ _ _ _ _ _ hP hS dX6_clearText_17 rfl ⟨rfl, rfl⟩
theorem iwX6_fault_X6_c_X6_fault : ∀ w ∈ wsX60, w ∈ wsX6_fault := by decide +kernel
theorem iwX6_fault_X4_c_X6_fault : ∀ w ∈ wsX40, w ∈ wsX6_fault := by decide +kernel
theorem iwX6_fault_X1_c_X6_fault : ∀ w ∈ wsX10, w ∈ wsX6_fault := by decide +kernel
theorem iwX6_fault_X3_c_X6_fault : ∀ w ∈ wsX30, w ∈ wsX6_fault := by decide +kernel
set_option maxHeartbeats 1000000 in
set_option maxRecDepth 100000 in
theorem c_X6_fault (l : Launch) (E : zE) (fs sc hi ch len pl fp : Nat) (a : Int32) (ad : Nat → Nat) (X : Nat → Nat → Nat) (st fr fo ti to : Int32) (Ch : Nat → Nat) (hCh : ∀ i, i < 80 → Ch i ≤ 126) (hlen : len ≤ 80) (hn : X 13 0 ≤ 12) (htb : X 13 2 ≤ 100000) : zM l yX6_fault wsX6_fault ({ frames := 5, cells := 0, slots := 0, locals := 114 }) E [.ref fs, .int a] [(fs, .inr (6, [.ref (ad 0), .ref hi, .ref sc])), ((ad 0), .inr (4, [.ref (ad 1), .ref (ad 5), .ref (ad 13), .ref (ad 16), .int (nI (X 13 2)), .int (nI (X 13 3))])), ((ad 1), .inr (1, [.int (nI (X 13 0)), .ref (ad 2), .ref (ad 3), .ref (ad 4)])), (sc, .inr (3, [.int (nI len), .ref ch, .int st, .int fr, .int fo, .int ti, .int (nI pl), .int to, .int (nI fp)])), (ch, .inl (E.2.2.1, 80, .inl (fun zz => nI (Ch zz))))] (fun r w' => (r = (-1) ∧ (¬ (nI 0 ≤ a ∧ a ≤ nI 1)) ∧ w' = [(fs, .inr (6, [.ref (ad 0), .ref hi, .ref sc])), ((ad 0), .inr (4, [.ref (ad 1), .ref (ad 5), .ref (ad 13), .ref (ad 16), .int (nI (X 13 2)), .int (nI (X 13 3))])), ((ad 1), .inr (1, [.int (nI (X 13 0)), .ref (ad 2), .ref (ad 3), .ref (ad 4)])), (sc, .inr (3, [.int (nI len), .ref ch, .int st, .int fr, .int fo, .int ti, .int (nI pl), .int to, .int (nI fp)])), (ch, .inl (E.2.2.1, 80, .inl (fun zz => nI (Ch zz))))]) ∨ (∃ (st9 : Int32) (fr9 : Int32) (fo9 : Int32) (ti9 : Int32) (pl9 : Nat) (to9 : Int32), r = (-4) ∧ (((nI 0 ≤ a ∧ a ≤ nI 1)) ∧ (ffN Ch len (X 13 0) 80 0 (X 13 2)).1 = 0) ∧ w' = [(fs, .inr (6, [.ref (ad 0), .ref hi, .ref sc])), ((ad 0), .inr (4, [.ref (ad 1), .ref (ad 5), .ref (ad 13), .ref (ad 16), .int (nI (X 13 2)), .int (nI (X 13 3))])), ((ad 1), .inr (1, [.int (nI (X 13 0)), .ref (ad 2), .ref (ad 3), .ref (ad 4)])), (sc, .inr (3, [.int (nI len), .ref ch, .int st9, .int fr9, .int fo9, .int ti9, .int (nI pl9), .int to9, .int (nI fp)])), (ch, .inl (E.2.2.1, 80, .inl (fun zz => nI (Ch zz))))]) ∨ (∃ (st9 : Int32) (fr9 : Int32) (fo9 : Int32) (ti9 : Int32) (pl9 : Nat) (to9 : Int32) (fp9 : Nat) (k : Nat) (r9 : Int32), r = r9 ∧ (a = nI k ∧ k ≤ 1 ∧ (ffN Ch len (X 13 0) 80 0 (X 13 2)).1 ≠ 0 ∧ r9 = if k = 0 then nI (ffN Ch len (X 13 0) 80 0 (X 13 2)).2 else nI (ffN Ch len (X 13 0) 80 0 (X 13 2)).1) ∧ w' = [(fs, .inr (6, [.ref (ad 0), .ref hi, .ref sc])), ((ad 0), .inr (4, [.ref (ad 1), .ref (ad 5), .ref (ad 13), .ref (ad 16), .int (nI (X 13 2)), .int (nI (X 13 3))])), ((ad 1), .inr (1, [.int (nI (X 13 0)), .ref (ad 2), .ref (ad 3), .ref (ad 4)])), (sc, .inr (3, [.int (nI len), .ref ch, .int st9, .int fr9, .int fo9, .int ti9, .int (nI pl9), .int to9, .int (nI fp9)])), (ch, .inl (E.2.2.1, 80, .inl (fun zz => nI (Ch zz))))])) := by
  refine zM.start (own := RX6) rfl (by decide +kernel) rfl (Nat.le_of_ble_eq_true rfl) (fun _ _ _ => rfl) ?_
  intro pZ eZ sZ mZ argsZ belowZ methZ cZ QZ AZ hF hret HZ locsZ hP hD hS hG ls hl
  obtain ⟨hx, hb, hml, hown, hts⟩ := id hF
  have hl : lv_has ls 3 [(0, .ref fs), (1, .int a)] := hl
  refine lv_iload_n hx hb dX6_fault_0 rfl (lv_at hl 1 rfl) ?_
  refine lv_iconst (v := nI 0) hx hb dX6_fault_1 (by decide) ?_
  refine lv_iconst (v := nI 1) hx hb dX6_fault_2 (by decide) ?_
  refine z_rd (fun _ h => h) (va_runS (As := [.int a, .int (nI 0), .int (nI 1)]) (rest := []) hF (c_X6_isWithin l E a (nI 0) (nI 1) ) (va_cwS 3 hts gX6_fault_X6_isWithin rfl rfl rfl (by decide +kernel) ⟨Nat.le_of_ble_eq_true rfl, Nat.le_of_ble_eq_true rfl⟩) (z_preR (fun k q h => by simp at h) hG) rfl rfl hl.1 rfl (lv_room (Nat.le_of_ble_eq_true rfl)) dX6_fault_3 ⟨Nat.zero_le _, Nat.zero_le _⟩) (fun r1 hr1 => ?_)
  rcases hr1 with ⟨rfl, c2⟩ | ⟨rfl, c2⟩
  · -- 3 t
    have ka := c2
    refine lv_if_ne (tgt := 11) hx hb dX6_fault_6 (by decide) (fun _ => ?_) (fun c => absurd c (by decide))
    refine lv_aload_n hx hb dX6_fault_11 rfl (lv_at hl 0 rfl) ?_
    refine va_get (D := E.1) (ci := 6) (v := .ref sc) (C := RX6) (T := TX6) (N := 3) hx hb hts iwX6_fault_X6_c_X6_fault hown hG.1 hP 0 rfl rfl 2 (by decide) (hts (.fieldLink RX6 26 "FrettedStrings" "score" "LFrettedStrings$Score;") (by decide +kernel)) (fun _ h9 => h9) rfl dX6_fault_12 ?_
    refine lv_aload_n hx hb dX6_fault_15 rfl (lv_at hl 0 rfl) ?_
    refine va_get (D := E.1) (ci := 6) (v := .ref (ad 0)) (C := RX6) (T := TX6) (N := 3) hx hb hts iwX6_fault_X6_c_X6_fault hown hG.1 hP 0 rfl rfl 0 (by decide) (hts (.fieldLink RX6 10 "FrettedStrings" "now" "LFrettedStrings$State;") (by decide +kernel)) (fun _ h9 => h9) rfl dX6_fault_16 ?_
    refine va_get (D := E.1) (ci := 4) (v := .ref (ad 1)) (C := RX4) (T := TX4) (N := 6) hx hb hts iwX6_fault_X4_c_X6_fault hown hG.1 hP 1 rfl rfl 0 (by decide) (hts (.fieldLink RX6 34 "FrettedStrings$State" "neck" "LFrettedStrings$Neck;") (by decide +kernel)) (fun _ h9 => h9) rfl dX6_fault_19 ?_
    refine va_get (D := E.1) (ci := 1) (v := .int (nI (X 13 0))) (C := RX1) (T := TX1) (N := 4) hx hb hts iwX6_fault_X1_c_X6_fault hown hG.1 hP 2 rfl rfl 0 (by decide) (hts (.fieldLink RX6 44 "FrettedStrings$Neck" "frets" "I") (by decide +kernel)) (fun _ h9 => h9) rfl dX6_fault_22 ?_
    refine lv_aload_n hx hb dX6_fault_25 rfl (lv_at hl 0 rfl) ?_
    refine va_get (D := E.1) (ci := 6) (v := .ref (ad 0)) (C := RX6) (T := TX6) (N := 3) hx hb hts iwX6_fault_X6_c_X6_fault hown hG.1 hP 0 rfl rfl 0 (by decide) (hts (.fieldLink RX6 10 "FrettedStrings" "now" "LFrettedStrings$State;") (by decide +kernel)) (fun _ h9 => h9) rfl dX6_fault_26 ?_
    refine va_get (D := E.1) (ci := 4) (v := .int (nI (X 13 2))) (C := RX4) (T := TX4) (N := 6) hx hb hts iwX6_fault_X4_c_X6_fault hown hG.1 hP 1 rfl rfl 4 (by decide) (hts (.fieldLink RX6 177 "FrettedStrings$State" "ticks" "I") (by decide +kernel)) (fun _ h9 => h9) rfl dX6_fault_29 ?_
    have hPc := zP_sub (w := [(sc, .inr (3, [.int (nI len), .ref ch, .int st, .int fr, .int fo, .int ti, .int (nI pl), .int to, .int (nI fp)])), (ch, .inl (E.2.2.1, 80, .inl (fun zz => nI (Ch zz))))]) hP [3, 4] rfl
    have hDc := zD_sub (w := [(sc, .inr (3, [.int (nI len), .ref ch, .int st, .int fr, .int fo, .int ti, .int (nI pl), .int to, .int (nI fp)])), (ch, .inl (E.2.2.1, 80, .inl (fun zz => nI (Ch zz))))]) hD [3, 4] (by decide) rfl
    refine z_md [3, 4] (va_runV (As := [.int (nI (X 13 0)), .int (nI (X 13 2))]) (rest := []) hF (c_X3_findFault l E sc ch len pl fp (X 13 0) (X 13 2) st fr fo ti to Ch (by first | assumption | omega) (by first | assumption | omega) (by first | assumption | omega) (by first | assumption | omega)) (cwV 2 hts gX6_fault_X3_findFault rfl rfl rfl (by decide +kernel) ⟨Nat.le_of_ble_eq_true rfl, Nat.le_of_ble_eq_true rfl⟩) (z_preMV (va_recv hG.1 hP (ci := 3) (q0 := 3) rfl rfl) hPc hDc hG) rfl rfl hl.1 rfl (lv_room (Nat.le_of_ble_eq_true rfl)) dX6_fault_32 ⟨Nat.zero_le _, Nat.zero_le _⟩) hP hD hS rfl (fun r3 w' HZ locsZ hr3 hP hD hS => ?_)
    rcases hr3 with ⟨st9_5, fr9_6, fo9_7, ti9_8, pl9_9, to9_10, rfl, c4, rfl⟩ | ⟨st9_12, fr9_13, fo9_14, ti9_15, pl9_16, to9_17, r9_18, fp9_19, rfl, c11, rfl⟩
    · -- 32 case 0
      have hP : va_P E.1 vwCl [(fs, .inr (6, [.ref (ad 0), .ref hi, .ref sc])), ((ad 0), .inr (4, [.ref (ad 1), .ref (ad 5), .ref (ad 13), .ref (ad 16), .int (nI (X 13 2)), .int (nI (X 13 3))])), ((ad 1), .inr (1, [.int (nI (X 13 0)), .ref (ad 2), .ref (ad 3), .ref (ad 4)])), (sc, .inr (3, [.int (nI len), .ref ch, .int st9_5, .int fr9_6, .int fo9_7, .int ti9_8, .int (nI pl9_9), .int to9_10, .int (nI fp)])), (ch, .inl (E.2.2.1, 80, .inl (fun zz => nI (Ch zz))))] _ := hP
      have hD : va_D AZ [(fs, .inr (6, [.ref (ad 0), .ref hi, .ref sc])), ((ad 0), .inr (4, [.ref (ad 1), .ref (ad 5), .ref (ad 13), .ref (ad 16), .int (nI (X 13 2)), .int (nI (X 13 3))])), ((ad 1), .inr (1, [.int (nI (X 13 0)), .ref (ad 2), .ref (ad 3), .ref (ad 4)])), (sc, .inr (3, [.int (nI len), .ref ch, .int st9_5, .int fr9_6, .int fo9_7, .int ti9_8, .int (nI pl9_9), .int to9_10, .int (nI fp)])), (ch, .inl (E.2.2.1, 80, .inl (fun zz => nI (Ch zz))))] := hD
      have hf0 := c4
      refine lv_istore_n (lv' := [(2, .int (nI 0)), (0, .ref fs), (1, .int a)]) hx hb dX6_fault_35 rfl hl (by decide) rfl (fun ls hl => ?_)
      refine lv_iload_n hx hb dX6_fault_36 rfl (lv_at hl 0 rfl) ?_
      refine lv_if_ne (tgt := 43) hx hb dX6_fault_37 (by decide) (fun c => absurd c (by decide)) (fun _ => ?_)
      refine lv_bipush (v := (-4)) hx hb dX6_fault_40 (by decide) ?_
      exact hret _ _ _ _ _ _ hP hS dX6_fault_42 rfl (Or.inr (Or.inl ⟨st9_5, fr9_6, fo9_7, ti9_8, pl9_9, to9_10, rfl, ⟨by assumption, by assumption⟩, rfl⟩))
    · -- 32 case 1
      have hP : va_P E.1 vwCl [(fs, .inr (6, [.ref (ad 0), .ref hi, .ref sc])), ((ad 0), .inr (4, [.ref (ad 1), .ref (ad 5), .ref (ad 13), .ref (ad 16), .int (nI (X 13 2)), .int (nI (X 13 3))])), ((ad 1), .inr (1, [.int (nI (X 13 0)), .ref (ad 2), .ref (ad 3), .ref (ad 4)])), (sc, .inr (3, [.int (nI len), .ref ch, .int st9_12, .int fr9_13, .int fo9_14, .int ti9_15, .int (nI pl9_16), .int to9_17, .int (nI fp9_19)])), (ch, .inl (E.2.2.1, 80, .inl (fun zz => nI (Ch zz))))] _ := hP
      have hD : va_D AZ [(fs, .inr (6, [.ref (ad 0), .ref hi, .ref sc])), ((ad 0), .inr (4, [.ref (ad 1), .ref (ad 5), .ref (ad 13), .ref (ad 16), .int (nI (X 13 2)), .int (nI (X 13 3))])), ((ad 1), .inr (1, [.int (nI (X 13 0)), .ref (ad 2), .ref (ad 3), .ref (ad 4)])), (sc, .inr (3, [.int (nI len), .ref ch, .int st9_12, .int fr9_13, .int fo9_14, .int ti9_15, .int (nI pl9_16), .int to9_17, .int (nI fp9_19)])), (ch, .inl (E.2.2.1, 80, .inl (fun zz => nI (Ch zz))))] := hD
      obtain ⟨hf1, hf2, hf3, hf4⟩ := c11
      obtain ⟨k, hk1, hk2, rfl⟩ := z_ge (by omega) (by omega) ka.1 ka.2
      refine lv_istore_n (lv' := [(2, .int (nI r9_18)), (0, .ref fs), (1, .int (nI k))]) hx hb dX6_fault_35 rfl hl (by decide) rfl (fun ls hl => ?_)
      refine lv_iload_n hx hb dX6_fault_36 rfl (lv_at hl 0 rfl) ?_
      refine z_if_ne (a := r9_18) (tgt := 43) hx hb dX6_fault_37 (by decide) (by omega) (fun c20 => ?_) (fun c20 => ?_)
      · -- 37 t
        refine lv_iload_n hx hb dX6_fault_43 rfl (lv_at hl 2 rfl) ?_
        refine z_if_ne (a := k) (tgt := 57) hx hb dX6_fault_44 (by decide) (by omega) (fun c21 => ?_) (fun c21 => ?_)
        · -- 44 t
          refine lv_iload_n hx hb dX6_fault_57 rfl (lv_at hl 0 rfl) ?_
          exact hret _ _ _ _ _ _ hP hS dX6_fault_58 rfl (Or.inr (Or.inr (⟨st9_12, fr9_13, fo9_14, ti9_15, pl9_16, to9_17, fp9_19, k, (nI r9_18), by first | rfl | (congr 1; omega), ⟨rfl, by omega, by omega, by first | (rw [if_pos (by omega)]; congr 1) | (rw [if_neg (by omega)]; congr 1)⟩, rfl⟩)))
        · -- 44 f
          refine lv_aload_n hx hb dX6_fault_47 rfl (lv_at hl 1 rfl) ?_
          refine va_get (D := E.1) (ci := 6) (v := .ref sc) (C := RX6) (T := TX6) (N := 3) hx hb hts iwX6_fault_X6_c_X6_fault hown hG.1 hP 0 rfl rfl 2 (by decide) (hts (.fieldLink RX6 26 "FrettedStrings" "score" "LFrettedStrings$Score;") (by decide +kernel)) (fun _ h9 => h9) rfl dX6_fault_48 ?_
          refine va_get (D := E.1) (ci := 3) (v := .int (nI fp9_19)) (C := RX3) (T := TX3) (N := 9) hx hb hts iwX6_fault_X3_c_X6_fault hown hG.1 hP 3 rfl rfl 8 (by decide) (hts (.fieldLink RX6 239 "FrettedStrings$Score" "faultPosition" "I") (by decide +kernel)) (fun _ h9 => h9) rfl dX6_fault_51 ?_
          refine lv_goto (tgt := 58) hx hb dX6_fault_54 (by decide) ?_
          exact hret _ _ _ _ _ _ hP hS dX6_fault_58 rfl (Or.inr (Or.inr (⟨st9_12, fr9_13, fo9_14, ti9_15, pl9_16, to9_17, fp9_19, k, (nI fp9_19), by first | rfl | (congr 1; omega), ⟨rfl, by omega, by omega, by first | (rw [if_pos (by omega)]; congr 1) | (rw [if_neg (by omega)]; congr 1)⟩, rfl⟩)))
      · -- 37 f
        omega
  · -- 3 f
    refine lv_if_ne (tgt := 11) hx hb dX6_fault_6 (by decide) (fun c => absurd c (by decide)) (fun _ => ?_)
    refine lv_iconst (v := (-1)) hx hb dX6_fault_9 (by decide) ?_
    exact hret _ _ _ _ _ _ hP hS dX6_fault_10 rfl (Or.inl ⟨rfl, by assumption, rfl⟩)
