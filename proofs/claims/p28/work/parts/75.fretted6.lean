theorem iwX6_played_X6_c_X6_played : ∀ w ∈ wsX60, w ∈ wsX6_played := by decide +kernel
theorem iwX6_played_X4_c_X6_played : ∀ w ∈ wsX40, w ∈ wsX6_played := by decide +kernel
theorem iwX6_played_X2_c_X6_played : ∀ w ∈ wsX20, w ∈ wsX6_played := by decide +kernel
set_option maxHeartbeats 1000000 in
set_option maxRecDepth 100000 in
theorem c_X6_played (l : Launch) (E : zE) (fs sc hi : Nat) (a v : Int32) (ad : Nat → Nat) (X : Nat → Nat → Nat) (hsz : X 13 1 ≤ 52) (hOr : ∀ i, i < 52 → X 10 i < 52) : zR l yX6_played wsX6_played ({ frames := 2, cells := 0, slots := 0, locals := 43 }) E [.ref fs, .int a, .int v] [(fs, .inr (6, [.ref (ad 0), .ref hi, .ref sc])), ((ad 0), .inr (4, [.ref (ad 1), .ref (ad 5), .ref (ad 13), .ref (ad 16), .int (nI (X 13 2)), .int (nI (X 13 3))])), ((ad 13), .inr (2, [.int (nI (X 13 1)), .ref (ad 14), .ref (ad 15)])), ((ad 14), .inl (E.2.1, 52, .inl (fun zz => nI ((X 10) zz)))), ((ad 15), .inl (E.2.1, 52, .inl (fun zz => nI ((X 11) zz))))] (fun r => (r = (-1) ∧ (a < nI 0 ∨ ¬ (nI 0 ≤ v ∧ v ≤ nI 2))) ∨ (∃ (w : Nat), r = (-4) ∧ (nI (X 13 1) ≤ a ∧ v = nI w ∧ w ≤ 2)) ∨ (∃ (k : Nat) (w : Nat) (r9 : Nat), r = nI r9 ∧ (a = nI k ∧ v = nI w ∧ k < X 13 1 ∧ w ≤ 2 ∧ r9 = plX X k w))) := by
  refine zR.start (own := RX6) rfl (by decide +kernel) rfl (Nat.le_of_ble_eq_true rfl) (fun _ _ => rfl) ?_
  intro pZ eZ sZ mZ argsZ belowZ methZ cZ QZ hF hret hP hG ls hl
  obtain ⟨hx, hb, hml, hown, hts⟩ := id hF
  have hl : lv_has ls 3 [(0, .ref fs), (1, .int a), (2, .int v)] := hl
  refine lv_iload_n hx hb dX6_played_0 rfl (lv_at hl 1 rfl) ?_
  refine lv_if_lt (tgt := 13) hx hb dX6_played_1 (by decide) (fun c1 => ?_) (fun c1 => ?_)
  · -- 1 t
    refine lv_iconst (v := (-1)) hx hb dX6_played_13 (by decide) ?_
    exact hret _ _ _ dX6_played_14 (Or.inl ⟨rfl, by first | exact Or.inl (by assumption) | exact Or.inr (by assumption)⟩)
  · -- 1 f
    have ka := c1
    refine lv_iload_n hx hb dX6_played_4 rfl (lv_at hl 2 rfl) ?_
    refine lv_iconst (v := nI 0) hx hb dX6_played_5 (by decide) ?_
    refine lv_iconst (v := nI 2) hx hb dX6_played_6 (by decide) ?_
    refine z_rd (fun _ h => h) (va_runS (As := [.int v, .int (nI 0), .int (nI 2)]) (rest := []) hF (c_X6_isWithin l E v (nI 0) (nI 2) ) (va_cwS 3 hts gX6_played_X6_isWithin rfl rfl rfl (by decide +kernel) ⟨Nat.le_of_ble_eq_true rfl, Nat.le_of_ble_eq_true rfl⟩) (z_preR (fun k q h => by simp at h) hG) rfl rfl hl.1 rfl (lv_room (Nat.le_of_ble_eq_true rfl)) dX6_played_7 ⟨Nat.zero_le _, Nat.zero_le _⟩) (fun r2 hr2 => ?_)
    rcases hr2 with ⟨rfl, c3⟩ | ⟨rfl, c3⟩
    · -- 7 t
      obtain ⟨w, hw1, hw2, rfl⟩ := z_ge (by omega) (by omega) c3.1 c3.2
      refine lv_if_ne (tgt := 15) hx hb dX6_played_10 (by decide) (fun _ => ?_) (fun c => absurd c (by decide))
      refine lv_iload_n hx hb dX6_played_15 rfl (lv_at hl 1 rfl) ?_
      refine lv_aload_n hx hb dX6_played_16 rfl (lv_at hl 0 rfl) ?_
      refine va_get (D := E.1) (ci := 6) (v := .ref (ad 0)) (C := RX6) (T := TX6) (N := 3) hx hb hts iwX6_played_X6_c_X6_played hown hG.1 hP 0 rfl rfl 0 (by decide) (hts (.fieldLink RX6 10 "FrettedStrings" "now" "LFrettedStrings$State;") (by decide +kernel)) (fun _ h9 => h9) rfl dX6_played_17 ?_
      refine va_get (D := E.1) (ci := 4) (v := .ref (ad 13)) (C := RX4) (T := TX4) (N := 6) hx hb hts iwX6_played_X4_c_X6_played hown hG.1 hP 1 rfl rfl 2 (by decide) (hts (.fieldLink RX6 198 "FrettedStrings$State" "notes" "LFrettedStrings$Notes;") (by decide +kernel)) (fun _ h9 => h9) rfl dX6_played_20 ?_
      refine va_get (D := E.1) (ci := 2) (v := .int (nI (X 13 1))) (C := RX2) (T := TX2) (N := 3) hx hb hts iwX6_played_X2_c_X6_played hown hG.1 hP 2 rfl rfl 0 (by decide) (hts (.fieldLink RX6 202 "FrettedStrings$Notes" "size" "I") (by decide +kernel)) (fun _ h9 => h9) rfl dX6_played_23 ?_
      refine lv_icmp_lt (tgt := 32) hx hb dX6_played_26 (by decide) (fun c4 => ?_) (fun c4 => ?_)
      · -- 26 t
        obtain ⟨k, hk1, rfl⟩ := z_lt0 (by omega) ka (Int32.not_le.mpr c4)
        refine lv_iload_n hx hb dX6_played_32 rfl (lv_at hl 2 rfl) ?_
        obtain hk | hk | hk : w = 0 ∨ w = 1 ∨ w = 2 := by omega
        · -- 33 case 0
          subst hk
          refine lv_lookup (tgt := 60) (off := 27) hx hb dX6_played_33 (by decide) (by decide) (by decide) ?_
          have hl : lv_has ls 3 [(0, .ref fs), (1, .int (nI k)), (2, .int (nI 0))] := hl
          refine lv_aload_n hx hb dX6_played_60 rfl (lv_at hl 0 rfl) ?_
          refine va_get (D := E.1) (ci := 6) (v := .ref (ad 0)) (C := RX6) (T := TX6) (N := 3) hx hb hts iwX6_played_X6_c_X6_played hown hG.1 hP 0 rfl rfl 0 (by decide) (hts (.fieldLink RX6 10 "FrettedStrings" "now" "LFrettedStrings$State;") (by decide +kernel)) (fun _ h9 => h9) rfl dX6_played_61 ?_
          refine va_get (D := E.1) (ci := 4) (v := .ref (ad 13)) (C := RX4) (T := TX4) (N := 6) hx hb hts iwX6_played_X4_c_X6_played hown hG.1 hP 1 rfl rfl 2 (by decide) (hts (.fieldLink RX6 198 "FrettedStrings$State" "notes" "LFrettedStrings$Notes;") (by decide +kernel)) (fun _ h9 => h9) rfl dX6_played_64 ?_
          refine lv_iload_n hx hb dX6_played_67 rfl (lv_at hl 1 rfl) ?_
          have hPc := zP_sub (w := [((ad 13), .inr (2, [.int (nI (X 13 1)), .ref (ad 14), .ref (ad 15)])), ((ad 14), .inl (E.2.1, 52, .inl (fun zz => nI ((X 10) zz))))]) hP [2, 3] rfl
          refine z_rd (fun _ h => h) (va_runV (As := [.int (nI k)]) (rest := []) hF (c_X2_stringOf l E (ad 13) (ad 14) (ad 15) (X 13 1) k (X 10) (by first | assumption | omega) (by first | assumption | omega) (by first | assumption | omega)) (cwV 1 hts gX6_played_X2_stringOf rfl rfl rfl (by decide +kernel) ⟨Nat.le_of_ble_eq_true rfl, Nat.le_of_ble_eq_true rfl⟩) (z_preRV (va_recv hG.1 hP (ci := 2) (q0 := 2) rfl rfl) hPc hG) rfl rfl hl.1 rfl (lv_room (Nat.le_of_ble_eq_true rfl)) dX6_played_68 ⟨Nat.zero_le _, Nat.zero_le _⟩) (fun r5 hr5 => ?_)
          subst hr5
          exact hret _ _ _ dX6_played_71 (Or.inr (Or.inr (⟨k, 0, ((X 10) k / 13), rfl, ⟨rfl, rfl, by omega, by omega, by unfold plX; (repeat' split) <;> first | rfl | (exfalso; omega)⟩⟩)))
        · -- 33 case 1
          subst hk
          refine lv_lookup (tgt := 72) (off := 39) hx hb dX6_played_33 (by decide) (by decide) (by decide) ?_
          have hl : lv_has ls 3 [(0, .ref fs), (1, .int (nI k)), (2, .int (nI 1))] := hl
          refine lv_aload_n hx hb dX6_played_72 rfl (lv_at hl 0 rfl) ?_
          refine va_get (D := E.1) (ci := 6) (v := .ref (ad 0)) (C := RX6) (T := TX6) (N := 3) hx hb hts iwX6_played_X6_c_X6_played hown hG.1 hP 0 rfl rfl 0 (by decide) (hts (.fieldLink RX6 10 "FrettedStrings" "now" "LFrettedStrings$State;") (by decide +kernel)) (fun _ h9 => h9) rfl dX6_played_73 ?_
          refine va_get (D := E.1) (ci := 4) (v := .ref (ad 13)) (C := RX4) (T := TX4) (N := 6) hx hb hts iwX6_played_X4_c_X6_played hown hG.1 hP 1 rfl rfl 2 (by decide) (hts (.fieldLink RX6 198 "FrettedStrings$State" "notes" "LFrettedStrings$Notes;") (by decide +kernel)) (fun _ h9 => h9) rfl dX6_played_76 ?_
          refine lv_iload_n hx hb dX6_played_79 rfl (lv_at hl 1 rfl) ?_
          have hPc := zP_sub (w := [((ad 13), .inr (2, [.int (nI (X 13 1)), .ref (ad 14), .ref (ad 15)])), ((ad 14), .inl (E.2.1, 52, .inl (fun zz => nI ((X 10) zz))))]) hP [2, 3] rfl
          refine z_rd (fun _ h => h) (va_runV (As := [.int (nI k)]) (rest := []) hF (c_X2_fretOf l E (ad 13) (ad 14) (ad 15) (X 13 1) k (X 10) (by first | assumption | omega) (by first | assumption | omega) (by first | assumption | omega)) (cwV 1 hts gX6_played_X2_fretOf rfl rfl rfl (by decide +kernel) ⟨Nat.le_of_ble_eq_true rfl, Nat.le_of_ble_eq_true rfl⟩) (z_preRV (va_recv hG.1 hP (ci := 2) (q0 := 2) rfl rfl) hPc hG) rfl rfl hl.1 rfl (lv_room (Nat.le_of_ble_eq_true rfl)) dX6_played_80 ⟨Nat.zero_le _, Nat.zero_le _⟩) (fun r6 hr6 => ?_)
          subst hr6
          exact hret _ _ _ dX6_played_83 (Or.inr (Or.inr (⟨k, 1, ((X 10) k % 13), rfl, ⟨rfl, rfl, by omega, by omega, by unfold plX; (repeat' split) <;> first | rfl | (exfalso; omega)⟩⟩)))
        · -- 33 case 2
          subst hk
          refine lv_lookup (tgt := 84) (off := 51) hx hb dX6_played_33 (by decide) (by decide) (by decide) ?_
          have hl : lv_has ls 3 [(0, .ref fs), (1, .int (nI k)), (2, .int (nI 2))] := hl
          refine lv_aload_n hx hb dX6_played_84 rfl (lv_at hl 0 rfl) ?_
          refine va_get (D := E.1) (ci := 6) (v := .ref (ad 0)) (C := RX6) (T := TX6) (N := 3) hx hb hts iwX6_played_X6_c_X6_played hown hG.1 hP 0 rfl rfl 0 (by decide) (hts (.fieldLink RX6 10 "FrettedStrings" "now" "LFrettedStrings$State;") (by decide +kernel)) (fun _ h9 => h9) rfl dX6_played_85 ?_
          refine va_get (D := E.1) (ci := 4) (v := .ref (ad 13)) (C := RX4) (T := TX4) (N := 6) hx hb hts iwX6_played_X4_c_X6_played hown hG.1 hP 1 rfl rfl 2 (by decide) (hts (.fieldLink RX6 198 "FrettedStrings$State" "notes" "LFrettedStrings$Notes;") (by decide +kernel)) (fun _ h9 => h9) rfl dX6_played_88 ?_
          refine lv_iload_n hx hb dX6_played_91 rfl (lv_at hl 1 rfl) ?_
          have hPc := zP_sub (w := [((ad 13), .inr (2, [.int (nI (X 13 1)), .ref (ad 14), .ref (ad 15)])), ((ad 14), .inl (E.2.1, 52, .inl (fun zz => nI ((X 10) zz)))), ((ad 15), .inl (E.2.1, 52, .inl (fun zz => nI ((X 11) zz))))]) hP [2, 3, 4] rfl
          refine z_rd (fun _ h => h) (va_runV (As := [.int (nI k)]) (rest := []) hF (c_X2_timesOf l E (ad 13) (ad 14) (ad 15) (X 13 1) k (X 10) (X 11) (by first | assumption | omega) (by first | assumption | omega) (by first | assumption | omega)) (cwV 1 hts gX6_played_X2_timesOf rfl rfl rfl (by decide +kernel) ⟨Nat.le_of_ble_eq_true rfl, Nat.le_of_ble_eq_true rfl⟩) (z_preRV (va_recv hG.1 hP (ci := 2) (q0 := 2) rfl rfl) hPc hG) rfl rfl hl.1 rfl (lv_room (Nat.le_of_ble_eq_true rfl)) dX6_played_92 ⟨Nat.zero_le _, Nat.zero_le _⟩) (fun r7 hr7 => ?_)
          subst hr7
          exact hret _ _ _ dX6_played_95 (Or.inr (Or.inr (⟨k, 2, ((X 11) ((X 10) k)), rfl, ⟨rfl, rfl, by omega, by omega, by unfold plX; (repeat' split) <;> first | rfl | (exfalso; omega)⟩⟩)))
      · -- 26 f
        have hge := Int32.not_lt.mp c4
        refine lv_bipush (v := (-4)) hx hb dX6_played_29 (by decide) ?_
        exact hret _ _ _ dX6_played_31 (Or.inr (Or.inl ⟨w, rfl, ⟨hge, rfl, by omega⟩⟩))
    · -- 7 f
      refine lv_if_ne (tgt := 15) hx hb dX6_played_10 (by decide) (fun c => absurd c (by decide)) (fun _ => ?_)
      refine lv_iconst (v := (-1)) hx hb dX6_played_13 (by decide) ?_
      exact hret _ _ _ dX6_played_14 (Or.inl ⟨rfl, by first | exact Or.inl (by assumption) | exact Or.inr (by assumption)⟩)
