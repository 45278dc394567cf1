set_option maxHeartbeats 1000000 in
set_option maxRecDepth 100000 in
theorem c_X6_greatestCommonDivisor (l : Launch) (E : zE) (a b : Nat) (ha0 : 0 < a) (ha : a ≤ 2520) (hb0 : b ≤ 2520) : zR l yX6_greatestCommonDivisor wsX6_greatestCommonDivisor ({ frames := 0, cells := 0, slots := 0, locals := 0 }) E [.int (nI a), .int (nI b)] [] (fun r => r = nI (Nat.gcd a b)) := by
  refine zR.start (own := RX6) rfl (by decide +kernel) rfl (Nat.le_of_ble_eq_true rfl) (fun _ _ => rfl) ?_
  intro pZ eZ sZ mZ argsZ belowZ methZ cZ QZ hF hret hP hG ls hl
  obtain ⟨hx, hb, hml, hown, hts⟩ := id hF
  have hl : lv_has ls 6 [(0, .int (nI a)), (1, .int (nI b))] := hl
  refine lv_iload_n hx hb dX6_greatestCommonDivisor_0 rfl (lv_at hl 0 rfl) ?_
  refine lv_istore_n (lv' := [(2, .int (nI a)), (0, .int (nI a)), (1, .int (nI b))]) hx hb dX6_greatestCommonDivisor_1 rfl hl (by decide) rfl (fun ls hl => ?_)
  refine lv_iload_n hx hb dX6_greatestCommonDivisor_2 rfl (lv_at hl 2 rfl) ?_
  refine lv_istore_n (lv' := [(3, .int (nI b)), (2, .int (nI a)), (0, .int (nI a)), (1, .int (nI b))]) hx hb dX6_greatestCommonDivisor_3 rfl hl (by decide) rfl (fun ls hl => ?_)
  refine lv_iconst (v := nI 0) hx hb dX6_greatestCommonDivisor_4 (by decide) ?_
  refine lv_istore (lv' := [(4, .int (nI 0)), (3, .int (nI b)), (2, .int (nI a)), (0, .int (nI a)), (1, .int (nI b))]) hx hb dX6_greatestCommonDivisor_5 hl (by decide) rfl (fun ls hl => ?_)
  have L7_1 : ∀ (fuelZ : Nat) (dd : Nat) (rr : Nat) (j : Nat), 64 - j < fuelZ → (0 < dd) → (Nat.gcd dd rr = Nat.gcd a b) → (dd * rr * 2 ^ j ≤ 12700800) → (j = 0 ∨ rr ≤ dd) → (dd ≤ 2520 ∧ rr ≤ 2520) → (j ≤ 64) → ∀ ls : Array Slot, lv_has ls 6 [(4, .int (nI j)), (3, .int (nI rr)), (2, .int (nI dd)), (0, .int (nI a)), (1, .int (nI b))] → W pZ l eZ ({ frames := 0, cells := 0, slots := 0, locals := 0 }) sZ mZ argsZ belowZ methZ cZ sZ.heap [] 0 0 QZ (F0 mZ 7 ls []) := by
    intro fuelZ
    induction fuelZ with
    | zero => intro dd rr j hm; exact absurd hm (Nat.not_lt_zero _)
    | succ fuelZ ih7 =>
      intro dd rr j hm i0 i1 i2 i3 i4 i5 ls hl
      refine lv_iload hx hb dX6_greatestCommonDivisor_7 (lv_at hl 0 rfl) ?_
      refine lv_bipush (v := nI 64) hx hb dX6_greatestCommonDivisor_9 (by decide) ?_
      refine z_icmp_ge (a := j) (b := 64) (tgt := 34) hx hb dX6_greatestCommonDivisor_11 (by decide) (by omega) (by omega) (fun c2 => ?_) (fun c2 => ?_)
      · -- 11 t
        refine lv_iload_n hx hb dX6_greatestCommonDivisor_34 rfl (lv_at hl 2 rfl) ?_
        exact hret _ _ _ dX6_greatestCommonDivisor_35 (by rw [← i1]; first | rw [gcd_end i2 (by omega) i0, Nat.gcd_zero_right] | (have hr0 : rr = 0 := (by assumption); rw [hr0, Nat.gcd_zero_right]))
      · -- 11 f
        refine lv_iload_n hx hb dX6_greatestCommonDivisor_14 rfl (lv_at hl 1 rfl) ?_
        refine z_if_le (a := rr) (tgt := 34) hx hb dX6_greatestCommonDivisor_15 (by decide) (by omega) (fun c3 => ?_) (fun c3 => ?_)
        · -- 15 t
          refine lv_iload_n hx hb dX6_greatestCommonDivisor_34 rfl (lv_at hl 2 rfl) ?_
          exact hret _ _ _ dX6_greatestCommonDivisor_35 (by rw [← i1]; first | rw [gcd_end i2 (by omega) i0, Nat.gcd_zero_right] | (have hr0 : rr = 0 := (by assumption); rw [hr0, Nat.gcd_zero_right]))
        · -- 15 f
          refine lv_iload_n hx hb dX6_greatestCommonDivisor_18 rfl (lv_at hl 2 rfl) ?_
          refine lv_iload_n hx hb dX6_greatestCommonDivisor_19 rfl (lv_at hl 1 rfl) ?_
          refine z_irem (a := dd) (b := rr) hx hb dX6_greatestCommonDivisor_20 (by omega) (by omega) (by omega) ?_
          refine lv_istore (lv' := [(5, .int (nI (dd % rr))), (4, .int (nI j)), (3, .int (nI rr)), (2, .int (nI dd)), (0, .int (nI a)), (1, .int (nI b))]) hx hb dX6_greatestCommonDivisor_21 hl (by decide) rfl (fun ls hl => ?_)
          refine lv_iload_n hx hb dX6_greatestCommonDivisor_23 rfl (lv_at hl 2 rfl) ?_
          refine lv_istore_n (lv' := [(2, .int (nI rr)), (5, .int (nI (dd % rr))), (4, .int (nI j)), (3, .int (nI rr)), (0, .int (nI a)), (1, .int (nI b))]) hx hb dX6_greatestCommonDivisor_24 rfl hl (by decide) rfl (fun ls hl => ?_)
          refine lv_iload hx hb dX6_greatestCommonDivisor_25 (lv_at hl 1 rfl) ?_
          refine lv_istore_n (lv' := [(3, .int (nI (dd % rr))), (2, .int (nI rr)), (5, .int (nI (dd % rr))), (4, .int (nI j)), (0, .int (nI a)), (1, .int (nI b))]) hx hb dX6_greatestCommonDivisor_27 rfl hl (by decide) rfl (fun ls hl => ?_)
          refine z_iinc (k := 3) (d := 1) (lv' := [(4, .int (nI (j + 1))), (3, .int (nI (dd % rr))), (2, .int (nI rr)), (5, .int (nI (dd % rr))), (0, .int (nI a)), (1, .int (nI b))]) hx hb dX6_greatestCommonDivisor_28 (by decide) hl rfl (by decide) rfl (fun ls hl => ?_)
          refine lv_goto (tgt := 7) hx hb dX6_greatestCommonDivisor_31 (by decide) ?_
          exact ih7 rr (dd % rr) (j + 1) (by omega) (by omega) (by rw [Nat.gcd_comm, ← Nat.gcd_rec, Nat.gcd_comm]; exact i1) (gcd_inv i2 (by omega) i3 (fun q => by have := Nat.mul_le_mul i4.1 i4.2; omega)) (Or.inr (Nat.le_of_lt (Nat.mod_lt _ (by omega)))) (⟨i4.2, Nat.le_trans (Nat.le_of_lt (Nat.mod_lt _ (by omega))) i4.2⟩) (by omega) _ (lv_sub hl [0, 1, 2, 4, 5] rfl)
  exact L7_1 ((64 - 0) + 1) a b 0 (Nat.lt_succ_self _) (by omega) (rfl) (by rw [Nat.pow_zero, Nat.mul_one]; exact Nat.le_trans (Nat.mul_le_mul ha hb0) (by omega)) (by omega) (by omega) (by omega) _ (lv_sub hl [0, 1, 2, 3, 4] rfl)
theorem iwX5_soundingLength_X5_c_X5_soundingLength : ∀ w ∈ wsX50, w ∈ wsX5_soundingLength := by decide +kernel
set_option maxHeartbeats 1000000 in
set_option maxRecDepth 100000 in
theorem c_X5_soundingLength (l : Launch) (E : zE) (t a0 a1 a2 a3 a4 a5 a6 s : Nat) (St : Nat → Nat) (hs : s < 4) (hst : ∀ i, i < 4 → St i ≤ 2400) : zR l yX5_soundingLength wsX5_soundingLength ({ frames := 0, cells := 0, slots := 0, locals := 0 }) E [.ref t, .int (nI s)] [(t, .inr (5, [.ref a0, .ref a1, .ref a2, .ref a3, .ref a4, .ref a5, .ref a6])), (a5, .inl (E.2.1, 4, .inl (fun zz => nI (St zz))))] (fun r => r = nI (2520 - St s)) := by
  refine zR.start (own := RX5) rfl (by decide +kernel) rfl (Nat.le_of_ble_eq_true rfl) (fun _ _ => rfl) ?_
  intro pZ eZ sZ mZ argsZ belowZ methZ cZ QZ hF hret hP hG ls hl
  obtain ⟨hx, hb, hml, hown, hts⟩ := id hF
  have hl : lv_has ls 2 [(0, .ref t), (1, .int (nI s))] := hl
  refine lv_sipush (v := nI 2520) hx hb dX5_soundingLength_0 (by decide) ?_
  refine lv_aload_n hx hb dX5_soundingLength_3 rfl (lv_at hl 0 rfl) ?_
  refine va_get (D := E.1) (ci := 5) (v := .ref a5) (C := RX5) (T := TX5) (N := 7) hx hb hts iwX5_soundingLength_X5_c_X5_soundingLength hown hG.1 hP 0 rfl rfl 5 (by decide) (hts (.fieldLink RX5 31 "FrettedStrings$Strings" "start" "[I") (by decide +kernel)) (fun _ h9 => h9) rfl dX5_soundingLength_4 ?_
  refine lv_iload_n hx hb dX5_soundingLength_7 rfl (lv_at hl 1 rfl) ?_
  refine z_iald (j := s) (v := St s) hx hb hG hP 1 rfl (by omega) (by decide) (rfl) dX5_soundingLength_8 ?_
  have b1 := hst s (by omega)
  refine z_isub (a := 2520) (b := St s) hx hb dX5_soundingLength_9 (by omega) ?_
  exact hret _ _ _ dX5_soundingLength_10 (by first | rfl | (congr 1; omega))
theorem iwX5_buzzes_X5_c_X5_buzzes : ∀ w ∈ wsX50, w ∈ wsX5_buzzes := by decide +kernel
set_option maxHeartbeats 1000000 in
set_option maxRecDepth 100000 in
theorem c_X5_buzzes (l : Launch) (E : zE) (t a0 a1 a2 a3 a4 a5 a6 s : Nat) (Pr So : Nat → Nat) (hs : s < 4) (hpr : ∀ i, i < 4 → Pr i ≤ 12) (hso : ∀ i, i < 4 → So i ≤ 12) : zR l yX5_buzzes wsX5_buzzes ({ frames := 0, cells := 0, slots := 0, locals := 0 }) E [.ref t, .int (nI s)] [(t, .inr (5, [.ref a0, .ref a1, .ref a2, .ref a3, .ref a4, .ref a5, .ref a6])), (a1, .inl (E.2.1, 4, .inl (fun zz => nI (Pr zz)))), (a4, .inl (E.2.1, 4, .inl (fun zz => nI (So zz))))] (fun r => (r = nI 1 ∧ (So s ≠ Pr s)) ∨ (r = nI 0 ∧ ¬ (So s ≠ Pr s))) := by
  refine zR.start (own := RX5) rfl (by decide +kernel) rfl (Nat.le_of_ble_eq_true rfl) (z_nar) ?_
  intro pZ eZ sZ mZ argsZ belowZ methZ cZ QZ hF hret hP hG ls hl
  obtain ⟨hx, hb, hml, hown, hts⟩ := id hF
  have hl : lv_has ls 2 [(0, .ref t), (1, .int (nI s))] := hl
  refine lv_aload_n hx hb dX5_buzzes_0 rfl (lv_at hl 0 rfl) ?_
  refine va_get (D := E.1) (ci := 5) (v := .ref a4) (C := RX5) (T := TX5) (N := 7) hx hb hts iwX5_buzzes_X5_c_X5_buzzes hown hG.1 hP 0 rfl rfl 4 (by decide) (hts (.fieldLink RX5 28 "FrettedStrings$Strings" "source" "[I") (by decide +kernel)) (fun _ h9 => h9) rfl dX5_buzzes_1 ?_
  refine lv_iload_n hx hb dX5_buzzes_4 rfl (lv_at hl 1 rfl) ?_
  refine z_iald (j := s) (v := So s) hx hb hG hP 2 rfl (by omega) (by decide) (rfl) dX5_buzzes_5 ?_
  have b1 := hso s (by omega)
  refine lv_aload_n hx hb dX5_buzzes_6 rfl (lv_at hl 0 rfl) ?_
  refine va_get (D := E.1) (ci := 5) (v := .ref a1) (C := RX5) (T := TX5) (N := 7) hx hb hts iwX5_buzzes_X5_c_X5_buzzes hown hG.1 hP 0 rfl rfl 1 (by decide) (hts (.fieldLink RX5 19 "FrettedStrings$Strings" "pressed" "[I") (by decide +kernel)) (fun _ h9 => h9) rfl dX5_buzzes_7 ?_
  refine lv_iload_n hx hb dX5_buzzes_10 rfl (lv_at hl 1 rfl) ?_
  refine z_iald (j := s) (v := Pr s) hx hb hG hP 1 rfl (by omega) (by decide) (rfl) dX5_buzzes_11 ?_
  have b2 := hpr s (by omega)
  refine z_icmp_eq (a := So s) (b := Pr s) (tgt := 19) hx hb dX5_buzzes_12 (by decide) (by omega) (by omega) (fun c3 => ?_) (fun c3 => ?_)
  · -- 12 t
    refine lv_iconst (v := nI 0) hx hb dX5_buzzes_19 (by decide) ?_
    exact hret _ _ _ dX5_buzzes_20 (Or.inr ⟨rfl, by omega⟩)
  · -- 12 f
    refine lv_iconst (v := nI 1) hx hb dX5_buzzes_15 (by decide) ?_
    refine lv_goto (tgt := 20) hx hb dX5_buzzes_16 (by decide) ?_
    exact hret _ _ _ dX5_buzzes_20 (Or.inl ⟨rfl, by omega⟩)
theorem iwX5_amplitudeOf_X5_c_X5_amplitudeOf : ∀ w ∈ wsX50, w ∈ wsX5_amplitudeOf := by decide +kernel
set_option maxHeartbeats 1000000 in
set_option maxRecDepth 100000 in
theorem c_X5_amplitudeOf (l : Launch) (E : zE) (t a0 a1 a2 a3 a4 a5 a6 s n : Nat) (Am : Nat → Nat) (hs : s < 4) (hm1 : 1 ≤ n) (hm2 : n ≤ 12) : zR l yX5_amplitudeOf wsX5_amplitudeOf ({ frames := 0, cells := 0, slots := 0, locals := 0 }) E [.ref t, .int (nI s), .int (nI n)] [(t, .inr (5, [.ref a0, .ref a1, .ref a2, .ref a3, .ref a4, .ref a5, .ref a6])), (a6, .inl (E.2.1, 48, .inl (fun zz => nI (Am zz))))] (fun r => r = nI (Am (s * 12 + n - 1))) := by
  refine zR.start (own := RX5) rfl (by decide +kernel) rfl (Nat.le_of_ble_eq_true rfl) (fun _ _ => rfl) ?_
  intro pZ eZ sZ mZ argsZ belowZ methZ cZ QZ hF hret hP hG ls hl
  obtain ⟨hx, hb, hml, hown, hts⟩ := id hF
  have hl : lv_has ls 3 [(0, .ref t), (1, .int (nI s)), (2, .int (nI n))] := hl
  refine lv_aload_n hx hb dX5_amplitudeOf_0 rfl (lv_at hl 0 rfl) ?_
  refine va_get (D := E.1) (ci := 5) (v := .ref a6) (C := RX5) (T := TX5) (N := 7) hx hb hts iwX5_amplitudeOf_X5_c_X5_amplitudeOf hown hG.1 hP 0 rfl rfl 6 (by decide) (hts (.fieldLink RX5 34 "FrettedStrings$Strings" "amplitudes" "[I") (by decide +kernel)) (fun _ h9 => h9) rfl dX5_amplitudeOf_1 ?_
  refine lv_iload_n hx hb dX5_amplitudeOf_4 rfl (lv_at hl 1 rfl) ?_
  refine lv_bipush (v := nI 12) hx hb dX5_amplitudeOf_5 (by decide) ?_
  refine z_imul (a := s) (b := 12) hx hb dX5_amplitudeOf_7 ?_
  refine lv_iload_n hx hb dX5_amplitudeOf_8 rfl (lv_at hl 2 rfl) ?_
  refine z_iadd (a := s * 12) (b := n) hx hb dX5_amplitudeOf_9 ?_
  refine lv_iconst (v := nI 1) hx hb dX5_amplitudeOf_10 (by decide) ?_
  refine z_isub (a := (s * 12) + n) (b := 1) hx hb dX5_amplitudeOf_11 (by omega) ?_
  refine z_iald (j := ((s * 12) + n) - 1) (v := Am (((s * 12) + n) - 1)) hx hb hG hP 1 rfl (by omega) (by decide) (rfl) dX5_amplitudeOf_12 ?_
  exact hret _ _ _ dX5_amplitudeOf_13 (by first | rfl | (congr 1; omega))
theorem iwX5_setAmplitude_X5_c_X5_setAmplitude : ∀ w ∈ wsX50, w ∈ wsX5_setAmplitude := by decide +kernel
set_option maxHeartbeats 1000000 in
set_option maxRecDepth 100000 in
theorem c_X5_setAmplitude (l : Launch) (E : zE) (t a0 a1 a2 a3 a4 a5 a6 s n v : Nat) (Am : Nat → Nat) (hs : s < 4) (hm1 : 1 ≤ n) (hm2 : n ≤ 12) : zV l yX5_setAmplitude wsX5_setAmplitude ({ frames := 0, cells := 0, slots := 0, locals := 0 }) E [.ref t, .int (nI s), .int (nI n), .int (nI v)] [(t, .inr (5, [.ref a0, .ref a1, .ref a2, .ref a3, .ref a4, .ref a5, .ref a6])), (a6, .inl (E.2.1, 48, .inl (fun zz => nI (Am zz))))] (fun w' => w' = [(t, .inr (5, [.ref a0, .ref a1, .ref a2, .ref a3, .ref a4, .ref a5, .ref a6])), (a6, .inl (E.2.1, 48, .inl (fun zz => nI ((va_up Am (s * 12 + n - 1) v) zz))))]) := by
  refine zV.start (own := RX5) rfl (by decide +kernel) rfl (Nat.le_of_ble_eq_true rfl) ?_
  intro pZ eZ sZ mZ argsZ belowZ methZ cZ QZ AZ hF hret HZ locsZ hP hD hS hG ls hl
  obtain ⟨hx, hb, hml, hown, hts⟩ := id hF
  have hl : lv_has ls 4 [(0, .ref t), (1, .int (nI s)), (2, .int (nI n)), (3, .int (nI v))] := hl
  refine lv_aload_n hx hb dX5_setAmplitude_0 rfl (lv_at hl 0 rfl) ?_
  refine va_get (D := E.1) (ci := 5) (v := .ref a6) (C := RX5) (T := TX5) (N := 7) hx hb hts iwX5_setAmplitude_X5_c_X5_setAmplitude hown hG.1 hP 0 rfl rfl 6 (by decide) (hts (.fieldLink RX5 34 "FrettedStrings$Strings" "amplitudes" "[I") (by decide +kernel)) (fun _ h9 => h9) rfl dX5_setAmplitude_1 ?_
  refine lv_iload_n hx hb dX5_setAmplitude_4 rfl (lv_at hl 1 rfl) ?_
  refine lv_bipush (v := nI 12) hx hb dX5_setAmplitude_5 (by decide) ?_
  refine z_imul (a := s) (b := 12) hx hb dX5_setAmplitude_7 ?_
  refine lv_iload_n hx hb dX5_setAmplitude_8 rfl (lv_at hl 2 rfl) ?_
  refine z_iadd (a := s * 12) (b := n) hx hb dX5_setAmplitude_9 ?_
  refine lv_iconst (v := nI 1) hx hb dX5_setAmplitude_10 (by decide) ?_
  refine z_isub (a := (s * 12) + n) (b := 1) hx hb dX5_setAmplitude_11 (by omega) ?_
  refine lv_iload_n hx hb dX5_setAmplitude_12 rfl (lv_at hl 3 rfl) ?_
  refine z_iast (j := ((s * 12) + n) - 1) (v := v) (g := va_up Am (((s * 12) + n) - 1) v) hx hb hG hP hD hS 1 rfl (by omega) (by decide) (rfl) dX5_setAmplitude_13 (fun HZ locsZ hP hD hS => ?_)
  have hP : va_P E.1 vwCl [(t, .inr (5, [.ref a0, .ref a1, .ref a2, .ref a3, .ref a4, .ref a5, .ref a6])), (a6, .inl (E.2.1, 48, .inl (fun zz => nI ((va_up Am (((s * 12) + n) - 1) v) zz))))] _ := hP
  have hD : va_D AZ [(t, .inr (5, [.ref a0, .ref a1, .ref a2, .ref a3, .ref a4, .ref a5, .ref a6])), (a6, .inl (E.2.1, 48, .inl (fun zz => nI ((va_up Am (((s * 12) + n) - 1) v) zz))))] := hD
  exact hret _ _ _ _ _ hP hS dX5_setAmplitude_14 rfl rfl
set_option maxHeartbeats 1000000 in
set_option maxRecDepth 100000 in
theorem c_X5_sumOfAmplitudes (l : Launch) (E : zE) (t a0 a1 a2 a3 a4 a5 a6 s : Nat) (Am : Nat → Nat) (hs : s < 4) : zR l yX5_sumOfAmplitudes wsX5_sumOfAmplitudes ({ frames := 1, cells := 0, slots := 0, locals := 22 }) E [.ref t, .int (nI s)] [(t, .inr (5, [.ref a0, .ref a1, .ref a2, .ref a3, .ref a4, .ref a5, .ref a6])), (a6, .inl (E.2.1, 48, .inl (fun zz => nI (Am zz))))] (fun r => r = nI (sumA Am s 12)) := by
  refine zR.start (own := RX5) rfl (by decide +kernel) rfl (Nat.le_of_ble_eq_true rfl) (fun _ _ => rfl) ?_
  intro pZ eZ sZ mZ argsZ belowZ methZ cZ QZ hF hret hP hG ls hl
  obtain ⟨hx, hb, hml, hown, hts⟩ := id hF
  have hl : lv_has ls 4 [(0, .ref t), (1, .int (nI s))] := hl
  refine lv_iconst (v := nI 0) hx hb dX5_sumOfAmplitudes_0 (by decide) ?_
  refine lv_istore_n (lv' := [(2, .int (nI 0)), (0, .ref t), (1, .int (nI s))]) hx hb dX5_sumOfAmplitudes_1 rfl hl (by decide) rfl (fun ls hl => ?_)
  refine lv_iconst (v := nI 1) hx hb dX5_sumOfAmplitudes_2 (by decide) ?_
  refine lv_istore_n (lv' := [(3, .int (nI 1)), (2, .int (nI 0)), (0, .ref t), (1, .int (nI s))]) hx hb dX5_sumOfAmplitudes_3 rfl hl (by decide) rfl (fun ls hl => ?_)
  have L4_1 : ∀ (fuelZ : Nat) (g : Nat), 13 - g < fuelZ → (1 ≤ g) → (g ≤ 13) → ∀ ls : Array Slot, lv_has ls 4 [(3, .int (nI g)), (2, .int (nI (sumA Am s (g - 1)))), (0, .ref t), (1, .int (nI s))] → W pZ l eZ ({ frames := 1, cells := 0, slots := 0, locals := 22 }) sZ mZ argsZ belowZ methZ cZ sZ.heap [] 0 0 QZ (F0 mZ 4 ls []) := by
    intro fuelZ
    induction fuelZ with
    | zero => intro g hm; exact absurd hm (Nat.not_lt_zero _)
    | succ fuelZ ih4 =>
      intro g hm i0 i1 ls hl
      refine lv_iload_n hx hb dX5_sumOfAmplitudes_4 rfl (lv_at hl 0 rfl) ?_
      refine lv_bipush (v := nI 12) hx hb dX5_sumOfAmplitudes_5 (by decide) ?_
      refine z_icmp_gt (a := g) (b := 12) (tgt := 25) hx hb dX5_sumOfAmplitudes_7 (by decide) (by omega) (by omega) (fun c2 => ?_) (fun c2 => ?_)
      · -- 7 t
        refine lv_iload_n hx hb dX5_sumOfAmplitudes_25 rfl (lv_at hl 1 rfl) ?_
        exact hret _ _ _ dX5_sumOfAmplitudes_26 (by rw [show g = 13 by omega])
      · -- 7 f
        refine lv_iload_n hx hb dX5_sumOfAmplitudes_10 rfl (lv_at hl 1 rfl) ?_
        refine lv_aload_n hx hb dX5_sumOfAmplitudes_11 rfl (lv_at hl 2 rfl) ?_
        refine lv_iload_n hx hb dX5_sumOfAmplitudes_12 rfl (lv_at hl 3 rfl) ?_
        refine lv_iload_n hx hb dX5_sumOfAmplitudes_13 rfl (lv_at hl 0 rfl) ?_
        have hPc := zP_sub (w := [(t, .inr (5, [.ref a0, .ref a1, .ref a2, .ref a3, .ref a4, .ref a5, .ref a6])), (a6, .inl (E.2.1, 48, .inl (fun zz => nI (Am zz))))]) hP [0, 1] rfl
        refine z_rd (fun _ h => h) (va_runV (As := [.int (nI s), .int (nI g)]) (rest := [.int (nI (sumA Am s (g - 1)))]) hF (c_X5_amplitudeOf l E t a0 a1 a2 a3 a4 a5 a6 s g Am (by omega) (by omega) (by omega)) (cwV 2 hts gX5_sumOfAmplitudes_X5_amplitudeOf rfl rfl rfl (by decide +kernel) ⟨Nat.le_of_ble_eq_true rfl, Nat.le_of_ble_eq_true rfl⟩) (z_preRV (va_recv hG.1 hP (ci := 5) (q0 := 0) rfl rfl) hPc hG) rfl rfl hl.1 rfl (lv_room (Nat.le_of_ble_eq_true rfl)) dX5_sumOfAmplitudes_14 ⟨Nat.zero_le _, Nat.zero_le _⟩) (fun r3 hr3 => ?_)
        subst hr3
        refine z_iadd (a := sumA Am s (g - 1)) (b := Am (s * 12 + g - 1)) hx hb dX5_sumOfAmplitudes_17 ?_
        refine lv_istore_n (lv' := [(2, .int (nI ((sumA Am s (g - 1)) + (Am (s * 12 + g - 1))))), (3, .int (nI g)), (0, .ref t), (1, .int (nI s))]) hx hb dX5_sumOfAmplitudes_18 rfl hl (by decide) rfl (fun ls hl => ?_)
        refine z_iinc (k := 1) (d := 1) (lv' := [(3, .int (nI (g + 1))), (2, .int (nI ((sumA Am s (g - 1)) + (Am (s * 12 + g - 1))))), (0, .ref t), (1, .int (nI s))]) hx hb dX5_sumOfAmplitudes_19 (by decide) hl rfl (by decide) rfl (fun ls hl => ?_)
        refine lv_goto (tgt := 4) hx hb dX5_sumOfAmplitudes_22 (by decide) ?_
        have e4 : nI ((sumA Am s (g - 1)) + (Am (s * 12 + g - 1))) = nI (sumA Am s ((g + 1) - 1)) := by obtain ⟨k, rfl⟩ : ∃ k, g = k + 1 := ⟨g - 1, by omega⟩; rfl
        have hl : lv_has ls 4 [(3, .int (nI (g + 1))), (2, .int (nI (sumA Am s ((g + 1) - 1)))), (0, .ref t), (1, .int (nI s))] := Eq.subst (motive := fun XX : Int32 => lv_has ls 4 [(3, .int (nI (g + 1))), (2, .int XX), (0, .ref t), (1, .int (nI s))]) e4 hl
        exact ih4 (g + 1) (by omega) (by omega) (by omega) _ (lv_sub hl [0, 1, 2, 3] rfl)
  have e5 : nI 0 = nI (sumA Am s (1 - 1)) := by rfl
  have hl : lv_has ls 4 [(3, .int (nI 1)), (2, .int (nI (sumA Am s (1 - 1)))), (0, .ref t), (1, .int (nI s))] := Eq.subst (motive := fun XX : Int32 => lv_has ls 4 [(3, .int (nI 1)), (2, .int XX), (0, .ref t), (1, .int (nI s))]) e5 hl
  exact L4_1 ((13 - 1) + 1) 1 (Nat.lt_succ_self _) (by omega) (by omega) _ (lv_sub hl [0, 1, 2, 3] rfl)
set_option maxHeartbeats 1000000 in
set_option maxRecDepth 100000 in
theorem c_X5_quieten (l : Launch) (E : zE) (t a0 a1 a2 a3 a4 a5 a6 s : Nat) (Am : Nat → Nat) (hs : s < 4) : zV l yX5_quieten wsX5_quieten ({ frames := 1, cells := 0, slots := 0, locals := 23 }) E [.ref t, .int (nI s)] [(t, .inr (5, [.ref a0, .ref a1, .ref a2, .ref a3, .ref a4, .ref a5, .ref a6])), (a6, .inl (E.2.1, 48, .inl (fun zz => nI (Am zz))))] (fun w' => w' = [(t, .inr (5, [.ref a0, .ref a1, .ref a2, .ref a3, .ref a4, .ref a5, .ref a6])), (a6, .inl (E.2.1, 48, .inl (fun zz => nI ((qzL Am s 12) zz))))]) := by
  refine zV.start (own := RX5) rfl (by decide +kernel) rfl (Nat.le_of_ble_eq_true rfl) ?_
  intro pZ eZ sZ mZ argsZ belowZ methZ cZ QZ AZ hF hret HZ locsZ hP hD hS hG ls hl
  obtain ⟨hx, hb, hml, hown, hts⟩ := id hF
  have hl : lv_has ls 3 [(0, .ref t), (1, .int (nI s))] := hl
  refine lv_iconst (v := nI 1) hx hb dX5_quieten_0 (by decide) ?_
  refine lv_istore_n (lv' := [(2, .int (nI 1)), (0, .ref t), (1, .int (nI s))]) hx hb dX5_quieten_1 rfl hl (by decide) rfl (fun ls hl => ?_)
  have L2_1 : ∀ (fuelZ : Nat) (g : Nat), 13 - g < fuelZ → (1 ≤ g) → (g ≤ 13) → ∀ (HZ : Heap) (locsZ : List Loc), va_P E.1 vwCl [(t, .inr (5, [.ref a0, .ref a1, .ref a2, .ref a3, .ref a4, .ref a5, .ref a6])), (a6, .inl (E.2.1, 48, .inl (fun zz => nI ((qzL Am s (g - 1)) zz))))] HZ → va_D AZ [(t, .inr (5, [.ref a0, .ref a1, .ref a2, .ref a3, .ref a4, .ref a5, .ref a6])), (a6, .inl (E.2.1, 48, .inl (fun zz => nI ((qzL Am s (g - 1)) zz))))] → va_S AZ sZ.heap HZ locsZ → ∀ ls : Array Slot, lv_has ls 3 [(2, .int (nI g)), (0, .ref t), (1, .int (nI s))] → W pZ l eZ ({ frames := 1, cells := 0, slots := 0, locals := 23 }) sZ mZ argsZ belowZ methZ cZ HZ locsZ 0 0 QZ (F0 mZ 2 ls []) := by
    intro fuelZ
    induction fuelZ with
    | zero => intro g hm; exact absurd hm (Nat.not_lt_zero _)
    | succ fuelZ ih2 =>
      intro g hm i0 i1 HZ locsZ hP hD hS ls hl
      refine lv_iload_n hx hb dX5_quieten_2 rfl (lv_at hl 0 rfl) ?_
      refine lv_bipush (v := nI 12) hx hb dX5_quieten_3 (by decide) ?_
      refine z_icmp_gt (a := g) (b := 12) (tgt := 21) hx hb dX5_quieten_5 (by decide) (by omega) (by omega) (fun c2 => ?_) (fun c2 => ?_)
      · -- 5 t
        have e3 : (qzL Am s (g - 1) : Nat → Nat) = qzL Am s 12 := by first | rfl | (rw [show g = 13 by omega])
        have hP : va_P E.1 vwCl [(t, .inr (5, [.ref a0, .ref a1, .ref a2, .ref a3, .ref a4, .ref a5, .ref a6])), (a6, .inl (E.2.1, 48, .inl (fun zz => nI ((qzL Am s 12) zz))))] HZ := Eq.subst (motive := fun XX : Nat → Nat => va_P E.1 vwCl [(t, .inr (5, [.ref a0, .ref a1, .ref a2, .ref a3, .ref a4, .ref a5, .ref a6])), (a6, .inl (E.2.1, 48, .inl (fun zz => nI (XX zz))))] HZ) e3 hP
        have hD : va_D AZ [(t, .inr (5, [.ref a0, .ref a1, .ref a2, .ref a3, .ref a4, .ref a5, .ref a6])), (a6, .inl (E.2.1, 48, .inl (fun zz => nI ((qzL Am s 12) zz))))] := Eq.subst (motive := fun XX : Nat → Nat => va_D AZ [(t, .inr (5, [.ref a0, .ref a1, .ref a2, .ref a3, .ref a4, .ref a5, .ref a6])), (a6, .inl (E.2.1, 48, .inl (fun zz => nI (XX zz))))]) e3 hD
        exact hret _ _ _ _ _ hP hS dX5_quieten_21 rfl rfl
      · -- 5 f
        refine lv_aload_n hx hb dX5_quieten_8 rfl (lv_at hl 1 rfl) ?_
        refine lv_iload_n hx hb dX5_quieten_9 rfl (lv_at hl 2 rfl) ?_
        refine lv_iload_n hx hb dX5_quieten_10 rfl (lv_at hl 0 rfl) ?_
        refine lv_iconst (v := nI 0) hx hb dX5_quieten_11 (by decide) ?_
        have hPc := zP_sub (w := [(t, .inr (5, [.ref a0, .ref a1, .ref a2, .ref a3, .ref a4, .ref a5, .ref a6])), (a6, .inl (E.2.1, 48, .inl (fun zz => nI ((qzL Am s (g - 1)) zz))))]) hP [0, 1] rfl
        have hDc := zD_sub (w := [(t, .inr (5, [.ref a0, .ref a1, .ref a2, .ref a3, .ref a4, .ref a5, .ref a6])), (a6, .inl (E.2.1, 48, .inl (fun zz => nI ((qzL Am s (g - 1)) zz))))]) hD [0, 1] (by decide) rfl
        refine z_vd [0, 1] (va_runV (As := [.int (nI s), .int (nI g), .int (nI 0)]) (rest := []) hF (c_X5_setAmplitude l E t a0 a1 a2 a3 a4 a5 a6 s g 0 (qzL Am s (g - 1)) (by omega) (by omega) (by omega)) (cwV 3 hts gX5_quieten_X5_setAmplitude rfl rfl rfl (by decide +kernel) ⟨Nat.le_of_ble_eq_true rfl, Nat.le_of_ble_eq_true rfl⟩) (z_preMV (va_recv hG.1 hP (ci := 5) (q0 := 0) rfl rfl) hPc hDc hG) rfl rfl hl.1 rfl (lv_room (Nat.le_of_ble_eq_true rfl)) dX5_quieten_12 ⟨Nat.zero_le _, Nat.zero_le _⟩) hP hD hS rfl (fun w' HZ locsZ hw hP hD hS => ?_)
        subst hw
        have hP : va_P E.1 vwCl [(t, .inr (5, [.ref a0, .ref a1, .ref a2, .ref a3, .ref a4, .ref a5, .ref a6])), (a6, .inl (E.2.1, 48, .inl (fun zz => nI ((va_up (qzL Am s (g - 1)) (s * 12 + g - 1) 0) zz))))] _ := hP
        have hD : va_D AZ [(t, .inr (5, [.ref a0, .ref a1, .ref a2, .ref a3, .ref a4, .ref a5, .ref a6])), (a6, .inl (E.2.1, 48, .inl (fun zz => nI ((va_up (qzL Am s (g - 1)) (s * 12 + g - 1) 0) zz))))] := hD
        refine z_iinc (k := 0) (d := 1) (lv' := [(2, .int (nI (g + 1))), (0, .ref t), (1, .int (nI s))]) hx hb dX5_quieten_15 (by decide) hl rfl (by decide) rfl (fun ls hl => ?_)
        refine lv_goto (tgt := 2) hx hb dX5_quieten_18 (by decide) ?_
        have e4 : (va_up (qzL Am s (g - 1)) (s * 12 + g - 1) 0 : Nat → Nat) = qzL Am s ((g + 1) - 1) := by first | rfl | (exact qzL_s Am i0)
        have hP : va_P E.1 vwCl [(t, .inr (5, [.ref a0, .ref a1, .ref a2, .ref a3, .ref a4, .ref a5, .ref a6])), (a6, .inl (E.2.1, 48, .inl (fun zz => nI ((qzL Am s ((g + 1) - 1)) zz))))] HZ := Eq.subst (motive := fun XX : Nat → Nat => va_P E.1 vwCl [(t, .inr (5, [.ref a0, .ref a1, .ref a2, .ref a3, .ref a4, .ref a5, .ref a6])), (a6, .inl (E.2.1, 48, .inl (fun zz => nI (XX zz))))] HZ) e4 hP
        have hD : va_D AZ [(t, .inr (5, [.ref a0, .ref a1, .ref a2, .ref a3, .ref a4, .ref a5, .ref a6])), (a6, .inl (E.2.1, 48, .inl (fun zz => nI ((qzL Am s ((g + 1) - 1)) zz))))] := Eq.subst (motive := fun XX : Nat → Nat => va_D AZ [(t, .inr (5, [.ref a0, .ref a1, .ref a2, .ref a3, .ref a4, .ref a5, .ref a6])), (a6, .inl (E.2.1, 48, .inl (fun zz => nI (XX zz))))]) e4 hD
        exact ih2 (g + 1) (by omega) (by omega) (by omega) _ _ hP hD hS _ (lv_sub hl [0, 1, 2] rfl)
  have e5 : (Am : Nat → Nat) = qzL Am s (1 - 1) := by first | rfl | (exact qzL_0 Am s)
  have hP : va_P E.1 vwCl [(t, .inr (5, [.ref a0, .ref a1, .ref a2, .ref a3, .ref a4, .ref a5, .ref a6])), (a6, .inl (E.2.1, 48, .inl (fun zz => nI ((qzL Am s (1 - 1)) zz))))] HZ := Eq.subst (motive := fun XX : Nat → Nat => va_P E.1 vwCl [(t, .inr (5, [.ref a0, .ref a1, .ref a2, .ref a3, .ref a4, .ref a5, .ref a6])), (a6, .inl (E.2.1, 48, .inl (fun zz => nI (XX zz))))] HZ) e5 hP
  have hD : va_D AZ [(t, .inr (5, [.ref a0, .ref a1, .ref a2, .ref a3, .ref a4, .ref a5, .ref a6])), (a6, .inl (E.2.1, 48, .inl (fun zz => nI ((qzL Am s (1 - 1)) zz))))] := Eq.subst (motive := fun XX : Nat → Nat => va_D AZ [(t, .inr (5, [.ref a0, .ref a1, .ref a2, .ref a3, .ref a4, .ref a5, .ref a6])), (a6, .inl (E.2.1, 48, .inl (fun zz => nI (XX zz))))]) e5 hD
  exact L2_1 ((13 - 1) + 1) 1 (Nat.lt_succ_self _) (by omega) (by omega) _ _ hP hD hS _ (lv_sub hl [0, 1, 2] rfl)
theorem iwX5_soundFrom_X5_c_X5_soundFrom : ∀ w ∈ wsX50, w ∈ wsX5_soundFrom := by decide +kernel
set_option maxHeartbeats 1000000 in
set_option maxRecDepth 100000 in
theorem c_X5_soundFrom (l : Launch) (E : zE) (t a0 a1 a2 a3 a4 a5 a6 s f x : Nat) (So St Am : Nat → Nat) (hs : s < 4) (hst : ∀ i, i < 4 → St i ≤ 2400) (hxx : x ≤ 2400) : zV l yX5_soundFrom wsX5_soundFrom ({ frames := 2, cells := 0, slots := 0, locals := 45 }) E [.ref t, .int (nI s), .int (nI f), .int (nI x)] [(t, .inr (5, [.ref a0, .ref a1, .ref a2, .ref a3, .ref a4, .ref a5, .ref a6])), (a4, .inl (E.2.1, 4, .inl (fun zz => nI (So zz)))), (a5, .inl (E.2.1, 4, .inl (fun zz => nI (St zz)))), (a6, .inl (E.2.1, 48, .inl (fun zz => nI (Am zz))))] (fun w' => w' = [(t, .inr (5, [.ref a0, .ref a1, .ref a2, .ref a3, .ref a4, .ref a5, .ref a6])), (a4, .inl (E.2.1, 4, .inl (fun zz => nI ((va_up So s f) zz)))), (a5, .inl (E.2.1, 4, .inl (fun zz => nI ((va_up St s x) zz)))), (a6, .inl (E.2.1, 48, .inl (fun zz => nI ((sfA Am St s x) zz))))]) := by
  refine zV.start (own := RX5) rfl (by decide +kernel) rfl (Nat.le_of_ble_eq_true rfl) ?_
  intro pZ eZ sZ mZ argsZ belowZ methZ cZ QZ AZ hF hret HZ locsZ hP hD hS hG ls hl
  obtain ⟨hx, hb, hml, hown, hts⟩ := id hF
  have hl : lv_has ls 4 [(0, .ref t), (1, .int (nI s)), (2, .int (nI f)), (3, .int (nI x))] := hl
  refine lv_aload_n hx hb dX5_soundFrom_0 rfl (lv_at hl 0 rfl) ?_
  refine va_get (D := E.1) (ci := 5) (v := .ref a5) (C := RX5) (T := TX5) (N := 7) hx hb hts iwX5_soundFrom_X5_c_X5_soundFrom hown hG.1 hP 0 rfl rfl 5 (by decide) (hts (.fieldLink RX5 31 "FrettedStrings$Strings" "start" "[I") (by decide +kernel)) (fun _ h9 => h9) rfl dX5_soundFrom_1 ?_
  refine lv_iload_n hx hb dX5_soundFrom_4 rfl (lv_at hl 1 rfl) ?_
  refine z_iald (j := s) (v := St s) hx hb hG hP 2 rfl (by omega) (by decide) (rfl) dX5_soundFrom_5 ?_
  have b1 := hst s (by omega)
  refine lv_iload_n hx hb dX5_soundFrom_6 rfl (lv_at hl 3 rfl) ?_
  refine z_icmp_eq (a := St s) (b := x) (tgt := 15) hx hb dX5_soundFrom_7 (by decide) (by omega) (by omega) (fun c2 => ?_) (fun c2 => ?_)
  · -- 7 t
    refine lv_aload_n hx hb dX5_soundFrom_15 rfl (lv_at hl 0 rfl) ?_
    refine va_get (D := E.1) (ci := 5) (v := .ref a4) (C := RX5) (T := TX5) (N := 7) hx hb hts iwX5_soundFrom_X5_c_X5_soundFrom hown hG.1 hP 0 rfl rfl 4 (by decide) (hts (.fieldLink RX5 28 "FrettedStrings$Strings" "source" "[I") (by decide +kernel)) (fun _ h9 => h9) rfl dX5_soundFrom_16 ?_
    refine lv_iload_n hx hb dX5_soundFrom_19 rfl (lv_at hl 1 rfl) ?_
    refine lv_iload_n hx hb dX5_soundFrom_20 rfl (lv_at hl 2 rfl) ?_
    refine z_iast (j := s) (v := f) (g := va_up So s f) hx hb hG hP hD hS 1 rfl (by omega) (by decide) (rfl) dX5_soundFrom_21 (fun HZ locsZ hP hD hS => ?_)
    have hP : va_P E.1 vwCl [(t, .inr (5, [.ref a0, .ref a1, .ref a2, .ref a3, .ref a4, .ref a5, .ref a6])), (a4, .inl (E.2.1, 4, .inl (fun zz => nI ((va_up So s f) zz)))), (a5, .inl (E.2.1, 4, .inl (fun zz => nI (St zz)))), (a6, .inl (E.2.1, 48, .inl (fun zz => nI (Am zz))))] _ := hP
    have hD : va_D AZ [(t, .inr (5, [.ref a0, .ref a1, .ref a2, .ref a3, .ref a4, .ref a5, .ref a6])), (a4, .inl (E.2.1, 4, .inl (fun zz => nI ((va_up So s f) zz)))), (a5, .inl (E.2.1, 4, .inl (fun zz => nI (St zz)))), (a6, .inl (E.2.1, 48, .inl (fun zz => nI (Am zz))))] := hD
    refine lv_aload_n hx hb dX5_soundFrom_22 rfl (lv_at hl 0 rfl) ?_
    refine va_get (D := E.1) (ci := 5) (v := .ref a5) (C := RX5) (T := TX5) (N := 7) hx hb hts iwX5_soundFrom_X5_c_X5_soundFrom hown hG.1 hP 0 rfl rfl 5 (by decide) (hts (.fieldLink RX5 31 "FrettedStrings$Strings" "start" "[I") (by decide +kernel)) (fun _ h9 => h9) rfl dX5_soundFrom_23 ?_
    refine lv_iload_n hx hb dX5_soundFrom_26 rfl (lv_at hl 1 rfl) ?_
    refine lv_iload_n hx hb dX5_soundFrom_27 rfl (lv_at hl 3 rfl) ?_
    refine z_iast (j := s) (v := x) (g := va_up St s x) hx hb hG hP hD hS 2 rfl (by omega) (by decide) (rfl) dX5_soundFrom_28 (fun HZ locsZ hP hD hS => ?_)
    have hP : va_P E.1 vwCl [(t, .inr (5, [.ref a0, .ref a1, .ref a2, .ref a3, .ref a4, .ref a5, .ref a6])), (a4, .inl (E.2.1, 4, .inl (fun zz => nI ((va_up So s f) zz)))), (a5, .inl (E.2.1, 4, .inl (fun zz => nI ((va_up St s x) zz)))), (a6, .inl (E.2.1, 48, .inl (fun zz => nI (Am zz))))] _ := hP
    have hD : va_D AZ [(t, .inr (5, [.ref a0, .ref a1, .ref a2, .ref a3, .ref a4, .ref a5, .ref a6])), (a4, .inl (E.2.1, 4, .inl (fun zz => nI ((va_up So s f) zz)))), (a5, .inl (E.2.1, 4, .inl (fun zz => nI ((va_up St s x) zz)))), (a6, .inl (E.2.1, 48, .inl (fun zz => nI (Am zz))))] := hD
    have e3 : (Am : Nat → Nat) = sfA Am St s x := by first | rfl | (unfold sfA; first | rw [if_pos (by assumption)] | rw [if_neg (by assumption)])
    have hP : va_P E.1 vwCl [(t, .inr (5, [.ref a0, .ref a1, .ref a2, .ref a3, .ref a4, .ref a5, .ref a6])), (a4, .inl (E.2.1, 4, .inl (fun zz => nI ((va_up So s f) zz)))), (a5, .inl (E.2.1, 4, .inl (fun zz => nI ((va_up St s x) zz)))), (a6, .inl (E.2.1, 48, .inl (fun zz => nI ((sfA Am St s x) zz))))] HZ := Eq.subst (motive := fun XX : Nat → Nat => va_P E.1 vwCl [(t, .inr (5, [.ref a0, .ref a1, .ref a2, .ref a3, .ref a4, .ref a5, .ref a6])), (a4, .inl (E.2.1, 4, .inl (fun zz => nI ((va_up So s f) zz)))), (a5, .inl (E.2.1, 4, .inl (fun zz => nI ((va_up St s x) zz)))), (a6, .inl (E.2.1, 48, .inl (fun zz => nI (XX zz))))] HZ) e3 hP
    have hD : va_D AZ [(t, .inr (5, [.ref a0, .ref a1, .ref a2, .ref a3, .ref a4, .ref a5, .ref a6])), (a4, .inl (E.2.1, 4, .inl (fun zz => nI ((va_up So s f) zz)))), (a5, .inl (E.2.1, 4, .inl (fun zz => nI ((va_up St s x) zz)))), (a6, .inl (E.2.1, 48, .inl (fun zz => nI ((sfA Am St s x) zz))))] := Eq.subst (motive := fun XX : Nat → Nat => va_D AZ [(t, .inr (5, [.ref a0, .ref a1, .ref a2, .ref a3, .ref a4, .ref a5, .ref a6])), (a4, .inl (E.2.1, 4, .inl (fun zz => nI ((va_up So s f) zz)))), (a5, .inl (E.2.1, 4, .inl (fun zz => nI ((va_up St s x) zz)))), (a6, .inl (E.2.1, 48, .inl (fun zz => nI (XX zz))))]) e3 hD
    exact hret _ _ _ _ _ hP hS dX5_soundFrom_29 rfl rfl
  · -- 7 f
    refine lv_aload_n hx hb dX5_soundFrom_10 rfl (lv_at hl 0 rfl) ?_
    refine lv_iload_n hx hb dX5_soundFrom_11 rfl (lv_at hl 1 rfl) ?_
    have hPc := zP_sub (w := [(t, .inr (5, [.ref a0, .ref a1, .ref a2, .ref a3, .ref a4, .ref a5, .ref a6])), (a6, .inl (E.2.1, 48, .inl (fun zz => nI (Am zz))))]) hP [0, 3] rfl
    have hDc := zD_sub (w := [(t, .inr (5, [.ref a0, .ref a1, .ref a2, .ref a3, .ref a4, .ref a5, .ref a6])), (a6, .inl (E.2.1, 48, .inl (fun zz => nI (Am zz))))]) hD [0, 3] (by decide) rfl
    refine z_vd [0, 3] (va_runV (As := [.int (nI s)]) (rest := []) hF (c_X5_quieten l E t a0 a1 a2 a3 a4 a5 a6 s Am (by omega)) (cwV 1 hts gX5_soundFrom_X5_quieten rfl rfl rfl (by decide +kernel) ⟨Nat.le_of_ble_eq_true rfl, Nat.le_of_ble_eq_true rfl⟩) (z_preMV (va_recv hG.1 hP (ci := 5) (q0 := 0) rfl rfl) hPc hDc hG) rfl rfl hl.1 rfl (lv_room (Nat.le_of_ble_eq_true rfl)) dX5_soundFrom_12 ⟨Nat.zero_le _, Nat.zero_le _⟩) hP hD hS rfl (fun w' HZ locsZ hw hP hD hS => ?_)
    subst hw
    have hP : va_P E.1 vwCl [(t, .inr (5, [.ref a0, .ref a1, .ref a2, .ref a3, .ref a4, .ref a5, .ref a6])), (a4, .inl (E.2.1, 4, .inl (fun zz => nI (So zz)))), (a5, .inl (E.2.1, 4, .inl (fun zz => nI (St zz)))), (a6, .inl (E.2.1, 48, .inl (fun zz => nI ((qzL Am s 12) zz))))] _ := hP
    have hD : va_D AZ [(t, .inr (5, [.ref a0, .ref a1, .ref a2, .ref a3, .ref a4, .ref a5, .ref a6])), (a4, .inl (E.2.1, 4, .inl (fun zz => nI (So zz)))), (a5, .inl (E.2.1, 4, .inl (fun zz => nI (St zz)))), (a6, .inl (E.2.1, 48, .inl (fun zz => nI ((qzL Am s 12) zz))))] := hD
    refine lv_aload_n hx hb dX5_soundFrom_15 rfl (lv_at hl 0 rfl) ?_
    refine va_get (D := E.1) (ci := 5) (v := .ref a4) (C := RX5) (T := TX5) (N := 7) hx hb hts iwX5_soundFrom_X5_c_X5_soundFrom hown hG.1 hP 0 rfl rfl 4 (by decide) (hts (.fieldLink RX5 28 "FrettedStrings$Strings" "source" "[I") (by decide +kernel)) (fun _ h9 => h9) rfl dX5_soundFrom_16 ?_
    refine lv_iload_n hx hb dX5_soundFrom_19 rfl (lv_at hl 1 rfl) ?_
    refine lv_iload_n hx hb dX5_soundFrom_20 rfl (lv_at hl 2 rfl) ?_
    refine z_iast (j := s) (v := f) (g := va_up So s f) hx hb hG hP hD hS 1 rfl (by omega) (by decide) (rfl) dX5_soundFrom_21 (fun HZ locsZ hP hD hS => ?_)
    have hP : va_P E.1 vwCl [(t, .inr (5, [.ref a0, .ref a1, .ref a2, .ref a3, .ref a4, .ref a5, .ref a6])), (a4, .inl (E.2.1, 4, .inl (fun zz => nI ((va_up So s f) zz)))), (a5, .inl (E.2.1, 4, .inl (fun zz => nI (St zz)))), (a6, .inl (E.2.1, 48, .inl (fun zz => nI ((qzL Am s 12) zz))))] _ := hP
    have hD : va_D AZ [(t, .inr (5, [.ref a0, .ref a1, .ref a2, .ref a3, .ref a4, .ref a5, .ref a6])), (a4, .inl (E.2.1, 4, .inl (fun zz => nI ((va_up So s f) zz)))), (a5, .inl (E.2.1, 4, .inl (fun zz => nI (St zz)))), (a6, .inl (E.2.1, 48, .inl (fun zz => nI ((qzL Am s 12) zz))))] := hD
    refine lv_aload_n hx hb dX5_soundFrom_22 rfl (lv_at hl 0 rfl) ?_
    refine va_get (D := E.1) (ci := 5) (v := .ref a5) (C := RX5) (T := TX5) (N := 7) hx hb hts iwX5_soundFrom_X5_c_X5_soundFrom hown hG.1 hP 0 rfl rfl 5 (by decide) (hts (.fieldLink RX5 31 "FrettedStrings$Strings" "start" "[I") (by decide +kernel)) (fun _ h9 => h9) rfl dX5_soundFrom_23 ?_
    refine lv_iload_n hx hb dX5_soundFrom_26 rfl (lv_at hl 1 rfl) ?_
    refine lv_iload_n hx hb dX5_soundFrom_27 rfl (lv_at hl 3 rfl) ?_
    refine z_iast (j := s) (v := x) (g := va_up St s x) hx hb hG hP hD hS 2 rfl (by omega) (by decide) (rfl) dX5_soundFrom_28 (fun HZ locsZ hP hD hS => ?_)
    have hP : va_P E.1 vwCl [(t, .inr (5, [.ref a0, .ref a1, .ref a2, .ref a3, .ref a4, .ref a5, .ref a6])), (a4, .inl (E.2.1, 4, .inl (fun zz => nI ((va_up So s f) zz)))), (a5, .inl (E.2.1, 4, .inl (fun zz => nI ((va_up St s x) zz)))), (a6, .inl (E.2.1, 48, .inl (fun zz => nI ((qzL Am s 12) zz))))] _ := hP
    have hD : va_D AZ [(t, .inr (5, [.ref a0, .ref a1, .ref a2, .ref a3, .ref a4, .ref a5, .ref a6])), (a4, .inl (E.2.1, 4, .inl (fun zz => nI ((va_up So s f) zz)))), (a5, .inl (E.2.1, 4, .inl (fun zz => nI ((va_up St s x) zz)))), (a6, .inl (E.2.1, 48, .inl (fun zz => nI ((qzL Am s 12) zz))))] := hD
    have e4 : (qzL Am s 12 : Nat → Nat) = sfA Am St s x := by first | rfl | (unfold sfA; first | rw [if_pos (by assumption)] | rw [if_neg (by assumption)])
    have hP : va_P E.1 vwCl [(t, .inr (5, [.ref a0, .ref a1, .ref a2, .ref a3, .ref a4, .ref a5, .ref a6])), (a4, .inl (E.2.1, 4, .inl (fun zz => nI ((va_up So s f) zz)))), (a5, .inl (E.2.1, 4, .inl (fun zz => nI ((va_up St s x) zz)))), (a6, .inl (E.2.1, 48, .inl (fun zz => nI ((sfA Am St s x) zz))))] HZ := Eq.subst (motive := fun XX : Nat → Nat => va_P E.1 vwCl [(t, .inr (5, [.ref a0, .ref a1, .ref a2, .ref a3, .ref a4, .ref a5, .ref a6])), (a4, .inl (E.2.1, 4, .inl (fun zz => nI ((va_up So s f) zz)))), (a5, .inl (E.2.1, 4, .inl (fun zz => nI ((va_up St s x) zz)))), (a6, .inl (E.2.1, 48, .inl (fun zz => nI (XX zz))))] HZ) e4 hP
    have hD : va_D AZ [(t, .inr (5, [.ref a0, .ref a1, .ref a2, .ref a3, .ref a4, .ref a5, .ref a6])), (a4, .inl (E.2.1, 4, .inl (fun zz => nI ((va_up So s f) zz)))), (a5, .inl (E.2.1, 4, .inl (fun zz => nI ((va_up St s x) zz)))), (a6, .inl (E.2.1, 48, .inl (fun zz => nI ((sfA Am St s x) zz))))] := Eq.subst (motive := fun XX : Nat → Nat => va_D AZ [(t, .inr (5, [.ref a0, .ref a1, .ref a2, .ref a3, .ref a4, .ref a5, .ref a6])), (a4, .inl (E.2.1, 4, .inl (fun zz => nI ((va_up So s f) zz)))), (a5, .inl (E.2.1, 4, .inl (fun zz => nI ((va_up St s x) zz)))), (a6, .inl (E.2.1, 48, .inl (fun zz => nI (XX zz))))]) e4 hD
    exact hret _ _ _ _ _ hP hS dX5_soundFrom_29 rfl rfl
theorem iwX5_makeRoomFor_X5_c_X5_makeRoomFor : ∀ w ∈ wsX50, w ∈ wsX5_makeRoomFor := by decide +kernel
set_option maxHeartbeats 1000000 in
set_option maxRecDepth 100000 in
theorem c_X5_makeRoomFor (l : Launch) (E : zE) (t a0 a1 a2 a3 a4 a5 a6 f : Nat) (Pr : Nat → Nat) (hpr : ∀ i, i < 4 → Pr i ≤ 12) (hf : f ≤ 13) : zV l yX5_makeRoomFor wsX5_makeRoomFor ({ frames := 0, cells := 0, slots := 0, locals := 0 }) E [.ref t, .int (nI f)] [(t, .inr (5, [.ref a0, .ref a1, .ref a2, .ref a3, .ref a4, .ref a5, .ref a6])), (a1, .inl (E.2.1, 4, .inl (fun zz => nI (Pr zz))))] (fun w' => w' = [(t, .inr (5, [.ref a0, .ref a1, .ref a2, .ref a3, .ref a4, .ref a5, .ref a6])), (a1, .inl (E.2.1, 4, .inl (fun zz => nI ((mrfL Pr f 4) zz))))]) := by
  refine zV.start (own := RX5) rfl (by decide +kernel) rfl (Nat.le_of_ble_eq_true rfl) ?_
  intro pZ eZ sZ mZ argsZ belowZ methZ cZ QZ AZ hF hret HZ locsZ hP hD hS hG ls hl
  obtain ⟨hx, hb, hml, hown, hts⟩ := id hF
  have hl : lv_has ls 3 [(0, .ref t), (1, .int (nI f))] := hl
  refine lv_iconst (v := nI 0) hx hb dX5_makeRoomFor_0 (by decide) ?_
  refine lv_istore_n (lv' := [(2, .int (nI 0)), (0, .ref t), (1, .int (nI f))]) hx hb dX5_makeRoomFor_1 rfl hl (by decide) rfl (fun ls hl => ?_)
  have L2_1 : ∀ (fuelZ : Nat) (g : Nat), 4 - g < fuelZ → (g ≤ 4) → ∀ (HZ : Heap) (locsZ : List Loc), va_P E.1 vwCl [(t, .inr (5, [.ref a0, .ref a1, .ref a2, .ref a3, .ref a4, .ref a5, .ref a6])), (a1, .inl (E.2.1, 4, .inl (fun zz => nI ((mrfL Pr f g) zz))))] HZ → va_D AZ [(t, .inr (5, [.ref a0, .ref a1, .ref a2, .ref a3, .ref a4, .ref a5, .ref a6])), (a1, .inl (E.2.1, 4, .inl (fun zz => nI ((mrfL Pr f g) zz))))] → va_S AZ sZ.heap HZ locsZ → ∀ ls : Array Slot, lv_has ls 3 [(2, .int (nI g)), (0, .ref t), (1, .int (nI f))] → W pZ l eZ ({ frames := 0, cells := 0, slots := 0, locals := 0 }) sZ mZ argsZ belowZ methZ cZ HZ locsZ 0 0 QZ (F0 mZ 2 ls []) := by
    intro fuelZ
    induction fuelZ with
    | zero => intro g hm; exact absurd hm (Nat.not_lt_zero _)
    | succ fuelZ ih2 =>
      intro g hm i1 HZ locsZ hP hD hS ls hl
      refine lv_iload_n hx hb dX5_makeRoomFor_2 rfl (lv_at hl 0 rfl) ?_
      refine lv_iconst (v := nI 4) hx hb dX5_makeRoomFor_3 (by decide) ?_
      refine z_icmp_ge (a := g) (b := 4) (tgt := 33) hx hb dX5_makeRoomFor_4 (by decide) (by omega) (by omega) (fun c2 => ?_) (fun c2 => ?_)
      · -- 4 t
        have e3 : (mrfL Pr f g : Nat → Nat) = mrfL Pr f 4 := by first | rfl | (rw [show g = 4 by omega])
        have hP : va_P E.1 vwCl [(t, .inr (5, [.ref a0, .ref a1, .ref a2, .ref a3, .ref a4, .ref a5, .ref a6])), (a1, .inl (E.2.1, 4, .inl (fun zz => nI ((mrfL Pr f 4) zz))))] HZ := Eq.subst (motive := fun XX : Nat → Nat => va_P E.1 vwCl [(t, .inr (5, [.ref a0, .ref a1, .ref a2, .ref a3, .ref a4, .ref a5, .ref a6])), (a1, .inl (E.2.1, 4, .inl (fun zz => nI (XX zz))))] HZ) e3 hP
        have hD : va_D AZ [(t, .inr (5, [.ref a0, .ref a1, .ref a2, .ref a3, .ref a4, .ref a5, .ref a6])), (a1, .inl (E.2.1, 4, .inl (fun zz => nI ((mrfL Pr f 4) zz))))] := Eq.subst (motive := fun XX : Nat → Nat => va_D AZ [(t, .inr (5, [.ref a0, .ref a1, .ref a2, .ref a3, .ref a4, .ref a5, .ref a6])), (a1, .inl (E.2.1, 4, .inl (fun zz => nI (XX zz))))]) e3 hD
        exact hret _ _ _ _ _ hP hS dX5_makeRoomFor_33 rfl rfl
      · -- 4 f
        refine lv_aload_n hx hb dX5_makeRoomFor_7 rfl (lv_at hl 1 rfl) ?_
        refine va_get (D := E.1) (ci := 5) (v := .ref a1) (C := RX5) (T := TX5) (N := 7) hx hb hts iwX5_makeRoomFor_X5_c_X5_makeRoomFor hown hG.1 hP 0 rfl rfl 1 (by decide) (hts (.fieldLink RX5 19 "FrettedStrings$Strings" "pressed" "[I") (by decide +kernel)) (fun _ h9 => h9) rfl dX5_makeRoomFor_8 ?_
        refine lv_iload_n hx hb dX5_makeRoomFor_11 rfl (lv_at hl 0 rfl) ?_
        refine z_iald (j := g) (v := Pr g) hx hb hG hP 1 rfl (by omega) (by decide) (mrfL_at Pr f g) dX5_makeRoomFor_12 ?_
        have hpg := hpr g (by omega)
        refine lv_iload_n hx hb dX5_makeRoomFor_13 rfl (lv_at hl 2 rfl) ?_
        refine z_icmp_lt (a := Pr g) (b := f) (tgt := 27) hx hb dX5_makeRoomFor_14 (by decide) (by omega) (by omega) (fun c4 => ?_) (fun c4 => ?_)
        · -- 14 t
          refine z_iinc (k := 0) (d := 1) (lv' := [(2, .int (nI (g + 1))), (0, .ref t), (1, .int (nI f))]) hx hb dX5_makeRoomFor_27 (by decide) hl rfl (by decide) rfl (fun ls hl => ?_)
          refine lv_goto (tgt := 2) hx hb dX5_makeRoomFor_30 (by decide) ?_
          have e5 : (mrfL Pr f g : Nat → Nat) = mrfL Pr f (g + 1) := by first | rfl | (first | exact mrfL_s Pr (by assumption) | exact mrfL_t Pr (by assumption))
          have hP : va_P E.1 vwCl [(t, .inr (5, [.ref a0, .ref a1, .ref a2, .ref a3, .ref a4, .ref a5, .ref a6])), (a1, .inl (E.2.1, 4, .inl (fun zz => nI ((mrfL Pr f (g + 1)) zz))))] HZ := Eq.subst (motive := fun XX : Nat → Nat => va_P E.1 vwCl [(t, .inr (5, [.ref a0, .ref a1, .ref a2, .ref a3, .ref a4, .ref a5, .ref a6])), (a1, .inl (E.2.1, 4, .inl (fun zz => nI (XX zz))))] HZ) e5 hP
          have hD : va_D AZ [(t, .inr (5, [.ref a0, .ref a1, .ref a2, .ref a3, .ref a4, .ref a5, .ref a6])), (a1, .inl (E.2.1, 4, .inl (fun zz => nI ((mrfL Pr f (g + 1)) zz))))] := Eq.subst (motive := fun XX : Nat → Nat => va_D AZ [(t, .inr (5, [.ref a0, .ref a1, .ref a2, .ref a3, .ref a4, .ref a5, .ref a6])), (a1, .inl (E.2.1, 4, .inl (fun zz => nI (XX zz))))]) e5 hD
          exact ih2 (g + 1) (by omega) (by omega) _ _ hP hD hS _ (lv_sub hl [0, 1, 2] rfl)
        · -- 14 f
          refine lv_aload_n hx hb dX5_makeRoomFor_17 rfl (lv_at hl 1 rfl) ?_
          refine va_get (D := E.1) (ci := 5) (v := .ref a1) (C := RX5) (T := TX5) (N := 7) hx hb hts iwX5_makeRoomFor_X5_c_X5_makeRoomFor hown hG.1 hP 0 rfl rfl 1 (by decide) (hts (.fieldLink RX5 19 "FrettedStrings$Strings" "pressed" "[I") (by decide +kernel)) (fun _ h9 => h9) rfl dX5_makeRoomFor_18 ?_
          refine lv_iload_n hx hb dX5_makeRoomFor_21 rfl (lv_at hl 0 rfl) ?_
          refine lv_dup2_11 hx hb dX5_makeRoomFor_22 rfl rfl ?_
          refine z_iald (j := g) (v := Pr g) hx hb hG hP 1 rfl (by omega) (by decide) (mrfL_at Pr f g) dX5_makeRoomFor_23 ?_
          refine lv_iconst (v := nI 1) hx hb dX5_makeRoomFor_24 (by decide) ?_
          refine z_iadd (a := Pr g) (b := 1) hx hb dX5_makeRoomFor_25 ?_
          refine z_iast (j := g) (v := (Pr g) + 1) (g := va_up (mrfL Pr f g) g ((Pr g) + 1)) hx hb hG hP hD hS 1 rfl (by omega) (by decide) (rfl) dX5_makeRoomFor_26 (fun HZ locsZ hP hD hS => ?_)
          have hP : va_P E.1 vwCl [(t, .inr (5, [.ref a0, .ref a1, .ref a2, .ref a3, .ref a4, .ref a5, .ref a6])), (a1, .inl (E.2.1, 4, .inl (fun zz => nI ((va_up (mrfL Pr f g) g ((Pr g) + 1)) zz))))] _ := hP
          have hD : va_D AZ [(t, .inr (5, [.ref a0, .ref a1, .ref a2, .ref a3, .ref a4, .ref a5, .ref a6])), (a1, .inl (E.2.1, 4, .inl (fun zz => nI ((va_up (mrfL Pr f g) g ((Pr g) + 1)) zz))))] := hD
          refine z_iinc (k := 0) (d := 1) (lv' := [(2, .int (nI (g + 1))), (0, .ref t), (1, .int (nI f))]) hx hb dX5_makeRoomFor_27 (by decide) hl rfl (by decide) rfl (fun ls hl => ?_)
          refine lv_goto (tgt := 2) hx hb dX5_makeRoomFor_30 (by decide) ?_
          have e6 : (va_up (mrfL Pr f g) g ((Pr g) + 1) : Nat → Nat) = mrfL Pr f (g + 1) := by first | rfl | (first | exact mrfL_s Pr (by assumption) | exact mrfL_t Pr (by assumption))
          have hP : va_P E.1 vwCl [(t, .inr (5, [.ref a0, .ref a1, .ref a2, .ref a3, .ref a4, .ref a5, .ref a6])), (a1, .inl (E.2.1, 4, .inl (fun zz => nI ((mrfL Pr f (g + 1)) zz))))] HZ := Eq.subst (motive := fun XX : Nat → Nat => va_P E.1 vwCl [(t, .inr (5, [.ref a0, .ref a1, .ref a2, .ref a3, .ref a4, .ref a5, .ref a6])), (a1, .inl (E.2.1, 4, .inl (fun zz => nI (XX zz))))] HZ) e6 hP
          have hD : va_D AZ [(t, .inr (5, [.ref a0, .ref a1, .ref a2, .ref a3, .ref a4, .ref a5, .ref a6])), (a1, .inl (E.2.1, 4, .inl (fun zz => nI ((mrfL Pr f (g + 1)) zz))))] := Eq.subst (motive := fun XX : Nat → Nat => va_D AZ [(t, .inr (5, [.ref a0, .ref a1, .ref a2, .ref a3, .ref a4, .ref a5, .ref a6])), (a1, .inl (E.2.1, 4, .inl (fun zz => nI (XX zz))))]) e6 hD
          exact ih2 (g + 1) (by omega) (by omega) _ _ hP hD hS _ (lv_sub hl [0, 1, 2] rfl)
  have e7 : (Pr : Nat → Nat) = mrfL Pr f 0 := by first | rfl | (exact mrfL_0 Pr f)
  have hP : va_P E.1 vwCl [(t, .inr (5, [.ref a0, .ref a1, .ref a2, .ref a3, .ref a4, .ref a5, .ref a6])), (a1, .inl (E.2.1, 4, .inl (fun zz => nI ((mrfL Pr f 0) zz))))] HZ := Eq.subst (motive := fun XX : Nat → Nat => va_P E.1 vwCl [(t, .inr (5, [.ref a0, .ref a1, .ref a2, .ref a3, .ref a4, .ref a5, .ref a6])), (a1, .inl (E.2.1, 4, .inl (fun zz => nI (XX zz))))] HZ) e7 hP
  have hD : va_D AZ [(t, .inr (5, [.ref a0, .ref a1, .ref a2, .ref a3, .ref a4, .ref a5, .ref a6])), (a1, .inl (E.2.1, 4, .inl (fun zz => nI ((mrfL Pr f 0) zz))))] := Eq.subst (motive := fun XX : Nat → Nat => va_D AZ [(t, .inr (5, [.ref a0, .ref a1, .ref a2, .ref a3, .ref a4, .ref a5, .ref a6])), (a1, .inl (E.2.1, 4, .inl (fun zz => nI (XX zz))))]) e7 hD
  exact L2_1 ((4 - 0) + 1) 0 (Nat.lt_succ_self _) (by omega) _ _ hP hD hS _ (lv_sub hl [0, 1, 2] rfl)
set_option maxHeartbeats 1000000 in
set_option maxRecDepth 100000 in
theorem c_X5_maskOf (l : Launch) (E : zE) (r f : Nat) (row : Nat → Nat) (hrow : ∀ i, i < 4 → row i ≤ 12) (hf : f ≤ 12) : zR l yX5_maskOf wsX5_maskOf ({ frames := 0, cells := 0, slots := 0, locals := 0 }) E [.ref r, .int (nI f)] [(r, .inl (E.2.1, 4, .inl (fun zz => nI (row zz))))] (fun r => r = nI (maskL row f 4)) := by
  refine zR.start (own := RX5) rfl (by decide +kernel) rfl (Nat.le_of_ble_eq_true rfl) (fun _ _ => rfl) ?_
  intro pZ eZ sZ mZ argsZ belowZ methZ cZ QZ hF hret hP hG ls hl
  obtain ⟨hx, hb, hml, hown, hts⟩ := id hF
  have hl : lv_has ls 4 [(0, .ref r), (1, .int (nI f))] := hl
  refine lv_iconst (v := nI 0) hx hb dX5_maskOf_0 (by decide) ?_
  refine lv_istore_n (lv' := [(2, .int (nI 0)), (0, .ref r), (1, .int (nI f))]) hx hb dX5_maskOf_1 rfl hl (by decide) rfl (fun ls hl => ?_)
  refine lv_iconst (v := nI 0) hx hb dX5_maskOf_2 (by decide) ?_
  refine lv_istore_n (lv' := [(3, .int (nI 0)), (2, .int (nI 0)), (0, .ref r), (1, .int (nI f))]) hx hb dX5_maskOf_3 rfl hl (by decide) rfl (fun ls hl => ?_)
  have L4_1 : ∀ (fuelZ : Nat) (g : Nat), 4 - g < fuelZ → (g ≤ 4) → ∀ ls : Array Slot, lv_has ls 4 [(3, .int (nI g)), (2, .int (nI (maskL row f g))), (0, .ref r), (1, .int (nI f))] → W pZ l eZ ({ frames := 0, cells := 0, slots := 0, locals := 0 }) sZ mZ argsZ belowZ methZ cZ sZ.heap [] 0 0 QZ (F0 mZ 4 ls []) := by
    intro fuelZ
    induction fuelZ with
    | zero => intro g hm; exact absurd hm (Nat.not_lt_zero _)
    | succ fuelZ ih4 =>
      intro g hm i1 ls hl
      refine lv_iload_n hx hb dX5_maskOf_4 rfl (lv_at hl 0 rfl) ?_
      refine lv_aload_n hx hb dX5_maskOf_5 rfl (lv_at hl 2 rfl) ?_
      refine va_alen (v := nI 4) hx hb hG.1 hP 0 0 rfl rfl rfl dX5_maskOf_6 ?_
      refine z_icmp_ge (a := g) (b := 4) (tgt := 29) hx hb dX5_maskOf_7 (by decide) (by omega) (by omega) (fun c2 => ?_) (fun c2 => ?_)
      · -- 7 t
        refine lv_iload_n hx hb dX5_maskOf_29 rfl (lv_at hl 1 rfl) ?_
        exact hret _ _ _ dX5_maskOf_30 (by rw [show g = 4 by omega])
      · -- 7 f
        refine lv_aload_n hx hb dX5_maskOf_10 rfl (lv_at hl 2 rfl) ?_
        refine lv_iload_n hx hb dX5_maskOf_11 rfl (lv_at hl 0 rfl) ?_
        refine z_iald (j := g) (v := row g) hx hb hG hP 0 rfl (by omega) (by decide) (rfl) dX5_maskOf_12 ?_
        have b3 := hrow g (by omega)
        refine lv_iload_n hx hb dX5_maskOf_13 rfl (lv_at hl 3 rfl) ?_
        refine z_icmp_ne (a := row g) (b := f) (tgt := 23) hx hb dX5_maskOf_14 (by decide) (by omega) (by omega) (fun c4 => ?_) (fun c4 => ?_)
        · -- 14 t
          refine z_iinc (k := 0) (d := 1) (lv' := [(3, .int (nI (g + 1))), (2, .int (nI (maskL row f g))), (0, .ref r), (1, .int (nI f))]) hx hb dX5_maskOf_23 (by decide) hl rfl (by decide) rfl (fun ls hl => ?_)
          refine lv_goto (tgt := 4) hx hb dX5_maskOf_26 (by decide) ?_
          have e5 : nI (maskL row f g) = nI (maskL row f (g + 1)) := by simp only [maskL]; first | rw [if_pos (by assumption)] | rw [if_neg (by assumption)]
          have hl : lv_has ls 4 [(3, .int (nI (g + 1))), (2, .int (nI (maskL row f (g + 1)))), (0, .ref r), (1, .int (nI f))] := Eq.subst (motive := fun XX : Int32 => lv_has ls 4 [(3, .int (nI (g + 1))), (2, .int XX), (0, .ref r), (1, .int (nI f))]) e5 hl
          exact ih4 (g + 1) (by omega) (by omega) _ (lv_sub hl [0, 1, 2, 3] rfl)
        · -- 14 f
          refine lv_iload_n hx hb dX5_maskOf_17 rfl (lv_at hl 1 rfl) ?_
          refine lv_iconst (v := nI 1) hx hb dX5_maskOf_18 (by decide) ?_
          refine lv_iload_n hx hb dX5_maskOf_19 rfl (lv_at hl 0 rfl) ?_
          refine z_ishl (b := g) hx hb dX5_maskOf_20 (by omega) ?_
          refine z_ior (a := maskL row f g) (b := 2 ^ g) hx hb dX5_maskOf_21 ?_
          refine lv_istore_n (lv' := [(2, .int (nI ((maskL row f g) ||| (2 ^ g)))), (3, .int (nI g)), (0, .ref r), (1, .int (nI f))]) hx hb dX5_maskOf_22 rfl hl (by decide) rfl (fun ls hl => ?_)
          refine z_iinc (k := 1) (d := 1) (lv' := [(3, .int (nI (g + 1))), (2, .int (nI ((maskL row f g) ||| (2 ^ g)))), (0, .ref r), (1, .int (nI f))]) hx hb dX5_maskOf_23 (by decide) hl rfl (by decide) rfl (fun ls hl => ?_)
          refine lv_goto (tgt := 4) hx hb dX5_maskOf_26 (by decide) ?_
          have e6 : nI ((maskL row f g) ||| (2 ^ g)) = nI (maskL row f (g + 1)) := by simp only [maskL]; first | rw [if_pos (by assumption)] | rw [if_neg (by assumption)]
          have hl : lv_has ls 4 [(3, .int (nI (g + 1))), (2, .int (nI (maskL row f (g + 1)))), (0, .ref r), (1, .int (nI f))] := Eq.subst (motive := fun XX : Int32 => lv_has ls 4 [(3, .int (nI (g + 1))), (2, .int XX), (0, .ref r), (1, .int (nI f))]) e6 hl
          exact ih4 (g + 1) (by omega) (by omega) _ (lv_sub hl [0, 1, 2, 3] rfl)
  have e7 : nI 0 = nI (maskL row f 0) := by rfl
  have hl : lv_has ls 4 [(3, .int (nI 0)), (2, .int (nI (maskL row f 0))), (0, .ref r), (1, .int (nI f))] := Eq.subst (motive := fun XX : Int32 => lv_has ls 4 [(3, .int (nI 0)), (2, .int XX), (0, .ref r), (1, .int (nI f))]) e7 hl
  exact L4_1 ((4 - 0) + 1) 0 (Nat.lt_succ_self _) (by omega) _ (lv_sub hl [0, 1, 2, 3] rfl)
theorem iwX5_maskPressedAt_X5_c_X5_maskPressedAt : ∀ w ∈ wsX50, w ∈ wsX5_maskPressedAt := by decide +kernel
set_option maxHeartbeats 1000000 in
set_option maxRecDepth 100000 in
theorem c_X5_maskPressedAt (l : Launch) (E : zE) (t a0 a1 a2 a3 a4 a5 a6 f : Nat) (Pr : Nat → Nat) (hrow : ∀ i, i < 4 → Pr i ≤ 12) (hf : f ≤ 12) : zR l yX5_maskPressedAt wsX5_maskPressedAt ({ frames := 1, cells := 0, slots := 0, locals := 23 }) E [.ref t, .int (nI f)] [(t, .inr (5, [.ref a0, .ref a1, .ref a2, .ref a3, .ref a4, .ref a5, .ref a6])), (a1, .inl (E.2.1, 4, .inl (fun zz => nI (Pr zz))))] (fun r => r = nI (maskL Pr f 4)) := by
  refine zR.start (own := RX5) rfl (by decide +kernel) rfl (Nat.le_of_ble_eq_true rfl) (fun _ _ => rfl) ?_
  intro pZ eZ sZ mZ argsZ belowZ methZ cZ QZ hF hret hP hG ls hl
  obtain ⟨hx, hb, hml, hown, hts⟩ := id hF
  have hl : lv_has ls 2 [(0, .ref t), (1, .int (nI f))] := hl
  refine lv_aload_n hx hb dX5_maskPressedAt_0 rfl (lv_at hl 0 rfl) ?_
  refine va_get (D := E.1) (ci := 5) (v := .ref a1) (C := RX5) (T := TX5) (N := 7) hx hb hts iwX5_maskPressedAt_X5_c_X5_maskPressedAt hown hG.1 hP 0 rfl rfl 1 (by decide) (hts (.fieldLink RX5 19 "FrettedStrings$Strings" "pressed" "[I") (by decide +kernel)) (fun _ h9 => h9) rfl dX5_maskPressedAt_1 ?_
  refine lv_iload_n hx hb dX5_maskPressedAt_4 rfl (lv_at hl 1 rfl) ?_
  have hPc := zP_sub (w := [(a1, .inl (E.2.1, 4, .inl (fun zz => nI (Pr zz))))]) hP [1] rfl
  refine z_rd (fun _ h => h) (va_runS (As := [.ref a1, .int (nI f)]) (rest := []) hF (c_X5_maskOf l E a1 f Pr (by assumption) (by assumption)) (va_cwS 2 hts gX5_maskPressedAt_X5_maskOf rfl rfl rfl (by decide +kernel) ⟨Nat.le_of_ble_eq_true rfl, Nat.le_of_ble_eq_true rfl⟩) (z_preR hPc hG) rfl rfl hl.1 rfl (lv_room (Nat.le_of_ble_eq_true rfl)) dX5_maskPressedAt_5 ⟨Nat.zero_le _, Nat.zero_le _⟩) (fun r1 hr1 => ?_)
  subst hr1
  exact hret _ _ _ dX5_maskPressedAt_8 (rfl)
theorem iwX5_maskSoundingFrom_X5_c_X5_maskSoundingFrom : ∀ w ∈ wsX50, w ∈ wsX5_maskSoundingFrom := by decide +kernel
set_option maxHeartbeats 1000000 in
set_option maxRecDepth 100000 in
theorem c_X5_maskSoundingFrom (l : Launch) (E : zE) (t a0 a1 a2 a3 a4 a5 a6 f : Nat) (So : Nat → Nat) (hrow : ∀ i, i < 4 → So i ≤ 12) (hf : f ≤ 12) : zR l yX5_maskSoundingFrom wsX5_maskSoundingFrom ({ frames := 1, cells := 0, slots := 0, locals := 23 }) E [.ref t, .int (nI f)] [(t, .inr (5, [.ref a0, .ref a1, .ref a2, .ref a3, .ref a4, .ref a5, .ref a6])), (a4, .inl (E.2.1, 4, .inl (fun zz => nI (So zz))))] (fun r => r = nI (maskL So f 4)) := by
  refine zR.start (own := RX5) rfl (by decide +kernel) rfl (Nat.le_of_ble_eq_true rfl) (fun _ _ => rfl) ?_
  intro pZ eZ sZ mZ argsZ belowZ methZ cZ QZ hF hret hP hG ls hl
  obtain ⟨hx, hb, hml, hown, hts⟩ := id hF
  have hl : lv_has ls 2 [(0, .ref t), (1, .int (nI f))] := hl
  refine lv_aload_n hx hb dX5_maskSoundingFrom_0 rfl (lv_at hl 0 rfl) ?_
  refine va_get (D := E.1) (ci := 5) (v := .ref a4) (C := RX5) (T := TX5) (N := 7) hx hb hts iwX5_maskSoundingFrom_X5_c_X5_maskSoundingFrom hown hG.1 hP 0 rfl rfl 4 (by decide) (hts (.fieldLink RX5 28 "FrettedStrings$Strings" "source" "[I") (by decide +kernel)) (fun _ h9 => h9) rfl dX5_maskSoundingFrom_1 ?_
  refine lv_iload_n hx hb dX5_maskSoundingFrom_4 rfl (lv_at hl 1 rfl) ?_
  have hPc := zP_sub (w := [(a4, .inl (E.2.1, 4, .inl (fun zz => nI (So zz))))]) hP [1] rfl
  refine z_rd (fun _ h => h) (va_runS (As := [.ref a4, .int (nI f)]) (rest := []) hF (c_X5_maskOf l E a4 f So (by assumption) (by assumption)) (va_cwS 2 hts gX5_maskSoundingFrom_X5_maskOf rfl rfl rfl (by decide +kernel) ⟨Nat.le_of_ble_eq_true rfl, Nat.le_of_ble_eq_true rfl⟩) (z_preR hPc hG) rfl rfl hl.1 rfl (lv_room (Nat.le_of_ble_eq_true rfl)) dX5_maskSoundingFrom_5 ⟨Nat.zero_le _, Nat.zero_le _⟩) (fun r1 hr1 => ?_)
  subst hr1
  exact hret _ _ _ dX5_maskSoundingFrom_8 (rfl)
set_option maxHeartbeats 1000000 in
set_option maxRecDepth 100000 in
theorem c_X5_buzzing (l : Launch) (E : zE) (t a0 a1 a2 a3 a4 a5 a6 : Nat) (Pr So : Nat → Nat) (hpr : ∀ i, i < 4 → Pr i ≤ 12) (hso : ∀ i, i < 4 → So i ≤ 12) : zR l yX5_buzzing wsX5_buzzing ({ frames := 1, cells := 0, slots := 0, locals := 21 }) E [.ref t] [(t, .inr (5, [.ref a0, .ref a1, .ref a2, .ref a3, .ref a4, .ref a5, .ref a6])), (a1, .inl (E.2.1, 4, .inl (fun zz => nI (Pr zz)))), (a4, .inl (E.2.1, 4, .inl (fun zz => nI (So zz))))] (fun r => r = nI (bzL So Pr 4)) := by
  refine zR.start (own := RX5) rfl (by decide +kernel) rfl (Nat.le_of_ble_eq_true rfl) (fun _ _ => rfl) ?_
  intro pZ eZ sZ mZ argsZ belowZ methZ cZ QZ hF hret hP hG ls hl
  obtain ⟨hx, hb, hml, hown, hts⟩ := id hF
  have hl : lv_has ls 3 [(0, .ref t)] := hl
  refine lv_iconst (v := nI 0) hx hb dX5_buzzing_0 (by decide) ?_
  refine lv_istore_n (lv' := [(1, .int (nI 0)), (0, .ref t)]) hx hb dX5_buzzing_1 rfl hl (by decide) rfl (fun ls hl => ?_)
  refine lv_iconst (v := nI 0) hx hb dX5_buzzing_2 (by decide) ?_
  refine lv_istore_n (lv' := [(2, .int (nI 0)), (1, .int (nI 0)), (0, .ref t)]) hx hb dX5_buzzing_3 rfl hl (by decide) rfl (fun ls hl => ?_)
  have L4_1 : ∀ (fuelZ : Nat) (g : Nat), 4 - g < fuelZ → (g ≤ 4) → ∀ ls : Array Slot, lv_has ls 3 [(2, .int (nI g)), (1, .int (nI (bzL So Pr g))), (0, .ref t)] → W pZ l eZ ({ frames := 1, cells := 0, slots := 0, locals := 21 }) sZ mZ argsZ belowZ methZ cZ sZ.heap [] 0 0 QZ (F0 mZ 4 ls []) := by
    intro fuelZ
    induction fuelZ with
    | zero => intro g hm; exact absurd hm (Nat.not_lt_zero _)
    | succ fuelZ ih4 =>
      intro g hm i1 ls hl
      refine lv_iload_n hx hb dX5_buzzing_4 rfl (lv_at hl 0 rfl) ?_
      refine lv_iconst (v := nI 4) hx hb dX5_buzzing_5 (by decide) ?_
      refine z_icmp_ge (a := g) (b := 4) (tgt := 31) hx hb dX5_buzzing_6 (by decide) (by omega) (by omega) (fun c2 => ?_) (fun c2 => ?_)
      · -- 6 t
        refine lv_iload_n hx hb dX5_buzzing_31 rfl (lv_at hl 1 rfl) ?_
        exact hret _ _ _ dX5_buzzing_32 (by rw [show g = 4 by omega])
      · -- 6 f
        refine lv_iload_n hx hb dX5_buzzing_9 rfl (lv_at hl 1 rfl) ?_
        refine lv_aload_n hx hb dX5_buzzing_10 rfl (lv_at hl 2 rfl) ?_
        refine lv_iload_n hx hb dX5_buzzing_11 rfl (lv_at hl 0 rfl) ?_
        have hPc := zP_sub (w := [(t, .inr (5, [.ref a0, .ref a1, .ref a2, .ref a3, .ref a4, .ref a5, .ref a6])), (a1, .inl (E.2.1, 4, .inl (fun zz => nI (Pr zz)))), (a4, .inl (E.2.1, 4, .inl (fun zz => nI (So zz))))]) hP [0, 1, 2] rfl
        refine z_rd (fun _ h => h) (va_runV (As := [.int (nI g)]) (rest := [.int (nI (bzL So Pr g))]) hF (c_X5_buzzes l E t a0 a1 a2 a3 a4 a5 a6 g Pr So (by omega) (hpr) (hso)) (cwV 1 hts gX5_buzzing_X5_buzzes rfl rfl rfl (by decide +kernel) ⟨Nat.le_of_ble_eq_true rfl, Nat.le_of_ble_eq_true rfl⟩) (z_preRV (va_recv hG.1 hP (ci := 5) (q0 := 0) rfl rfl) hPc hG) rfl rfl hl.1 rfl (lv_room (Nat.le_of_ble_eq_true rfl)) dX5_buzzing_12 ⟨Nat.zero_le _, Nat.zero_le _⟩) (fun r3 hr3 => ?_)
        rcases hr3 with ⟨rfl, c4⟩ | ⟨rfl, c4⟩
        · -- 12 t
          refine lv_if_eq (tgt := 22) hx hb dX5_buzzing_15 (by decide) (fun c => absurd c (by decide)) (fun _ => ?_)
          refine lv_iconst (v := nI 1) hx hb dX5_buzzing_18 (by decide) ?_
          refine lv_goto (tgt := 23) hx hb dX5_buzzing_19 (by decide) ?_
          refine z_iadd (a := bzL So Pr g) (b := 1) hx hb dX5_buzzing_23 ?_
          refine lv_istore_n (lv' := [(1, .int (nI ((bzL So Pr g) + 1))), (2, .int (nI g)), (0, .ref t)]) hx hb dX5_buzzing_24 rfl hl (by decide) rfl (fun ls hl => ?_)
          refine z_iinc (k := 1) (d := 1) (lv' := [(2, .int (nI (g + 1))), (1, .int (nI ((bzL So Pr g) + 1))), (0, .ref t)]) hx hb dX5_buzzing_25 (by decide) hl rfl (by decide) rfl (fun ls hl => ?_)
          refine lv_goto (tgt := 4) hx hb dX5_buzzing_28 (by decide) ?_
          have e5 : nI ((bzL So Pr g) + 1) = nI (bzL So Pr (g + 1)) := by simp only [bzL]; first | rw [if_pos (by assumption)] | rw [if_neg (by assumption)]
          have hl : lv_has ls 3 [(2, .int (nI (g + 1))), (1, .int (nI (bzL So Pr (g + 1)))), (0, .ref t)] := Eq.subst (motive := fun XX : Int32 => lv_has ls 3 [(2, .int (nI (g + 1))), (1, .int XX), (0, .ref t)]) e5 hl
          exact ih4 (g + 1) (by omega) (by omega) _ (lv_sub hl [0, 1, 2] rfl)
        · -- 12 f
          refine lv_if_eq (tgt := 22) hx hb dX5_buzzing_15 (by decide) (fun _ => ?_) (fun c => absurd c (by decide))
          refine lv_iconst (v := nI 0) hx hb dX5_buzzing_22 (by decide) ?_
          refine z_iadd (a := bzL So Pr g) (b := 0) hx hb dX5_buzzing_23 ?_
          refine lv_istore_n (lv' := [(1, .int (nI ((bzL So Pr g) + 0))), (2, .int (nI g)), (0, .ref t)]) hx hb dX5_buzzing_24 rfl hl (by decide) rfl (fun ls hl => ?_)
          refine z_iinc (k := 1) (d := 1) (lv' := [(2, .int (nI (g + 1))), (1, .int (nI ((bzL So Pr g) + 0))), (0, .ref t)]) hx hb dX5_buzzing_25 (by decide) hl rfl (by decide) rfl (fun ls hl => ?_)
          refine lv_goto (tgt := 4) hx hb dX5_buzzing_28 (by decide) ?_
          have e6 : nI ((bzL So Pr g) + 0) = nI (bzL So Pr (g + 1)) := by simp only [bzL]; first | rw [if_pos (by assumption)] | rw [if_neg (by assumption)]
          have hl : lv_has ls 3 [(2, .int (nI (g + 1))), (1, .int (nI (bzL So Pr (g + 1)))), (0, .ref t)] := Eq.subst (motive := fun XX : Int32 => lv_has ls 3 [(2, .int (nI (g + 1))), (1, .int XX), (0, .ref t)]) e6 hl
          exact ih4 (g + 1) (by omega) (by omega) _ (lv_sub hl [0, 1, 2] rfl)
  have e7 : nI 0 = nI (bzL So Pr 0) := by rfl
  have hl : lv_has ls 3 [(2, .int (nI 0)), (1, .int (nI (bzL So Pr 0))), (0, .ref t)] := Eq.subst (motive := fun XX : Int32 => lv_has ls 3 [(2, .int (nI 0)), (1, .int XX), (0, .ref t)]) e7 hl
  exact L4_1 ((4 - 0) + 1) 0 (Nat.lt_succ_self _) (by omega) _ (lv_sub hl [0, 1, 2] rfl)
theorem iwX5_plucksInAll_X5_c_X5_plucksInAll : ∀ w ∈ wsX50, w ∈ wsX5_plucksInAll := by decide +kernel
set_option maxHeartbeats 1000000 in
set_option maxRecDepth 100000 in
theorem c_X5_plucksInAll (l : Launch) (E : zE) (t a0 a1 a2 a3 a4 a5 a6 : Nat) (Pl : Nat → Nat)  : zR l yX5_plucksInAll wsX5_plucksInAll ({ frames := 0, cells := 0, slots := 0, locals := 0 }) E [.ref t] [(t, .inr (5, [.ref a0, .ref a1, .ref a2, .ref a3, .ref a4, .ref a5, .ref a6])), (a3, .inl (E.2.1, 4, .inl (fun zz => nI (Pl zz))))] (fun r => r = nI (sumP Pl 4)) := by
  refine zR.start (own := RX5) rfl (by decide +kernel) rfl (Nat.le_of_ble_eq_true rfl) (fun _ _ => rfl) ?_
  intro pZ eZ sZ mZ argsZ belowZ methZ cZ QZ hF hret hP hG ls hl
  obtain ⟨hx, hb, hml, hown, hts⟩ := id hF
  have hl : lv_has ls 3 [(0, .ref t)] := hl
  refine lv_iconst (v := nI 0) hx hb dX5_plucksInAll_0 (by decide) ?_
  refine lv_istore_n (lv' := [(1, .int (nI 0)), (0, .ref t)]) hx hb dX5_plucksInAll_1 rfl hl (by decide) rfl (fun ls hl => ?_)
  refine lv_iconst (v := nI 0) hx hb dX5_plucksInAll_2 (by decide) ?_
  refine lv_istore_n (lv' := [(2, .int (nI 0)), (1, .int (nI 0)), (0, .ref t)]) hx hb dX5_plucksInAll_3 rfl hl (by decide) rfl (fun ls hl => ?_)
  have L4_1 : ∀ (fuelZ : Nat) (g : Nat), 4 - g < fuelZ → (g ≤ 4) → ∀ ls : Array Slot, lv_has ls 3 [(2, .int (nI g)), (1, .int (nI (sumP Pl g))), (0, .ref t)] → W pZ l eZ ({ frames := 0, cells := 0, slots := 0, locals := 0 }) sZ mZ argsZ belowZ methZ cZ sZ.heap [] 0 0 QZ (F0 mZ 4 ls []) := by
    intro fuelZ
    induction fuelZ with
    | zero => intro g hm; exact absurd hm (Nat.not_lt_zero _)
    | succ fuelZ ih4 =>
      intro g hm i1 ls hl
      refine lv_iload_n hx hb dX5_plucksInAll_4 rfl (lv_at hl 0 rfl) ?_
      refine lv_iconst (v := nI 4) hx hb dX5_plucksInAll_5 (by decide) ?_
      refine z_icmp_ge (a := g) (b := 4) (tgt := 24) hx hb dX5_plucksInAll_6 (by decide) (by omega) (by omega) (fun c2 => ?_) (fun c2 => ?_)
      · -- 6 t
        refine lv_iload_n hx hb dX5_plucksInAll_24 rfl (lv_at hl 1 rfl) ?_
        exact hret _ _ _ dX5_plucksInAll_25 (by rw [show g = 4 by omega])
      · -- 6 f
        refine lv_iload_n hx hb dX5_plucksInAll_9 rfl (lv_at hl 1 rfl) ?_
        refine lv_aload_n hx hb dX5_plucksInAll_10 rfl (lv_at hl 2 rfl) ?_
        refine va_get (D := E.1) (ci := 5) (v := .ref a3) (C := RX5) (T := TX5) (N := 7) hx hb hts iwX5_plucksInAll_X5_c_X5_plucksInAll hown hG.1 hP 0 rfl rfl 3 (by decide) (hts (.fieldLink RX5 25 "FrettedStrings$Strings" "plucks" "[I") (by decide +kernel)) (fun _ h9 => h9) rfl dX5_plucksInAll_11 ?_
        refine lv_iload_n hx hb dX5_plucksInAll_14 rfl (lv_at hl 0 rfl) ?_
        refine z_iald (j := g) (v := Pl g) hx hb hG hP 1 rfl (by omega) (by decide) (rfl) dX5_plucksInAll_15 ?_
        refine z_iadd (a := sumP Pl g) (b := Pl g) hx hb dX5_plucksInAll_16 ?_
        refine lv_istore_n (lv' := [(1, .int (nI ((sumP Pl g) + (Pl g)))), (2, .int (nI g)), (0, .ref t)]) hx hb dX5_plucksInAll_17 rfl hl (by decide) rfl (fun ls hl => ?_)
        refine z_iinc (k := 1) (d := 1) (lv' := [(2, .int (nI (g + 1))), (1, .int (nI ((sumP Pl g) + (Pl g)))), (0, .ref t)]) hx hb dX5_plucksInAll_18 (by decide) hl rfl (by decide) rfl (fun ls hl => ?_)
        refine lv_goto (tgt := 4) hx hb dX5_plucksInAll_21 (by decide) ?_
        have e3 : nI ((sumP Pl g) + (Pl g)) = nI (sumP Pl (g + 1)) := by rfl
        have hl : lv_has ls 3 [(2, .int (nI (g + 1))), (1, .int (nI (sumP Pl (g + 1)))), (0, .ref t)] := Eq.subst (motive := fun XX : Int32 => lv_has ls 3 [(2, .int (nI (g + 1))), (1, .int XX), (0, .ref t)]) e3 hl
        exact ih4 (g + 1) (by omega) (by omega) _ (lv_sub hl [0, 1, 2] rfl)
  have e4 : nI 0 = nI (sumP Pl 0) := by rfl
  have hl : lv_has ls 3 [(2, .int (nI 0)), (1, .int (nI (sumP Pl 0))), (0, .ref t)] := Eq.subst (motive := fun XX : Int32 => lv_has ls 3 [(2, .int (nI 0)), (1, .int XX), (0, .ref t)]) e4 hl
  exact L4_1 ((4 - 0) + 1) 0 (Nat.lt_succ_self _) (by omega) _ (lv_sub hl [0, 1, 2] rfl)
theorem iwX5_pitchOf_X5_c_X5_pitchOf : ∀ w ∈ wsX50, w ∈ wsX5_pitchOf := by decide +kernel
set_option maxHeartbeats 1000000 in
set_option maxRecDepth 100000 in
theorem c_X5_pitchOf (l : Launch) (E : zE) (t a0 a1 a2 a3 a4 a5 a6 s n : Nat) (T St : Nat → Nat) (hs : s < 4) (hm1 : 1 ≤ n) (hm2 : n ≤ 12) (hst : ∀ i, i < 4 → St i ≤ 2400) (hte : ∀ i, i < 4 → T i ≤ 100000000) : zR l yX5_pitchOf wsX5_pitchOf ({ frames := 1, cells := 0, slots := 0, locals := 21 }) E [.ref t, .int (nI s), .int (nI n)] [(t, .inr (5, [.ref a0, .ref a1, .ref a2, .ref a3, .ref a4, .ref a5, .ref a6])), (a0, .inl (E.2.1, 4, .inl (fun zz => nI (T zz)))), (a5, .inl (E.2.1, 4, .inl (fun zz => nI (St zz))))] (fun r => r = nI (n * T s / (2520 - St s))) := by
  refine zR.start (own := RX5) rfl (by decide +kernel) rfl (Nat.le_of_ble_eq_true rfl) (fun _ _ => rfl) ?_
  intro pZ eZ sZ mZ argsZ belowZ methZ cZ QZ hF hret hP hG ls hl
  obtain ⟨hx, hb, hml, hown, hts⟩ := id hF
  have hl : lv_has ls 4 [(0, .ref t), (1, .int (nI s)), (2, .int (nI n))] := hl
  have hsb := hst s hs
  refine lv_aload_n hx hb dX5_pitchOf_0 rfl (lv_at hl 0 rfl) ?_
  refine lv_iload_n hx hb dX5_pitchOf_1 rfl (lv_at hl 1 rfl) ?_
  have hPc := zP_sub (w := [(t, .inr (5, [.ref a0, .ref a1, .ref a2, .ref a3, .ref a4, .ref a5, .ref a6])), (a5, .inl (E.2.1, 4, .inl (fun zz => nI (St zz))))]) hP [0, 2] rfl
  refine z_rd (fun _ h => h) (va_runV (As := [.int (nI s)]) (rest := []) hF (c_X5_soundingLength l E t a0 a1 a2 a3 a4 a5 a6 s St (by omega) (hst)) (cwV 1 hts gX5_pitchOf_X5_soundingLength rfl rfl rfl (by decide +kernel) ⟨Nat.le_of_ble_eq_true rfl, Nat.le_of_ble_eq_true rfl⟩) (z_preRV (va_recv hG.1 hP (ci := 5) (q0 := 0) rfl rfl) hPc hG) rfl rfl hl.1 rfl (lv_room (Nat.le_of_ble_eq_true rfl)) dX5_pitchOf_2 ⟨Nat.zero_le _, Nat.zero_le _⟩) (fun r1 hr1 => ?_)
  subst hr1
  refine lv_istore_n (lv' := [(3, .int (nI (2520 - St s))), (0, .ref t), (1, .int (nI s)), (2, .int (nI n))]) hx hb dX5_pitchOf_5 rfl hl (by decide) rfl (fun ls hl => ?_)
  refine lv_iload_n hx hb dX5_pitchOf_6 rfl (lv_at hl 0 rfl) ?_
  refine lv_iconst (v := nI 1) hx hb dX5_pitchOf_7 (by decide) ?_
  refine z_icmp_ge (a := 2520 - St s) (b := 1) (tgt := 15) hx hb dX5_pitchOf_8 (by decide) (by omega) (by omega) (fun c2 => ?_) (fun c2 => ?_)
  · -- 8 t
    refine lv_iload_n hx hb dX5_pitchOf_15 rfl (lv_at hl 3 rfl) ?_
    refine lv_aload_n hx hb dX5_pitchOf_16 rfl (lv_at hl 1 rfl) ?_
    refine va_get (D := E.1) (ci := 5) (v := .ref a0) (C := RX5) (T := TX5) (N := 7) hx hb hts iwX5_pitchOf_X5_c_X5_pitchOf hown hG.1 hP 0 rfl rfl 0 (by decide) (hts (.fieldLink RX5 13 "FrettedStrings$Strings" "tension" "[I") (by decide +kernel)) (fun _ h9 => h9) rfl dX5_pitchOf_17 ?_
    refine lv_iload_n hx hb dX5_pitchOf_20 rfl (lv_at hl 2 rfl) ?_
    refine z_iald (j := s) (v := T s) hx hb hG hP 1 rfl (by omega) (by decide) (rfl) dX5_pitchOf_21 ?_
    have b3 := hte s (by omega)
    have hnt : n * T s ≤ 12 * 100000000 := Nat.mul_le_mul hm2 (hte s hs)
    refine z_imul (a := n) (b := T s) hx hb dX5_pitchOf_22 ?_
    refine lv_iload_n hx hb dX5_pitchOf_23 rfl (lv_at hl 0 rfl) ?_
    refine z_idiv (a := n * (T s)) (b := 2520 - St s) hx hb dX5_pitchOf_24 (by omega) (by omega) (by omega) ?_
    exact hret _ _ _ dX5_pitchOf_25 (by first | rfl | (congr 1; omega))
  · -- 8 f
    omega
theorem iwX5_distanceFromNode_X5_c_X5_distanceFromNode : ∀ w ∈ wsX50, w ∈ wsX5_distanceFromNode := by decide +kernel
set_option maxHeartbeats 1000000 in
set_option maxRecDepth 100000 in
theorem c_X5_distanceFromNode (l : Launch) (E : zE) (t a0 a1 a2 a3 a4 a5 a6 s n x : Nat) (St : Nat → Nat) (hs : s < 4) (hm1 : 1 ≤ n) (hm2 : n ≤ 12) (hst : ∀ i, i < 4 → St i ≤ 2400) (hx1 : St s < x) (hx2 : x ≤ 2519) : zR l yX5_distanceFromNode wsX5_distanceFromNode ({ frames := 1, cells := 0, slots := 0, locals := 22 }) E [.ref t, .int (nI s), .int (nI n), .int (nI x)] [(t, .inr (5, [.ref a0, .ref a1, .ref a2, .ref a3, .ref a4, .ref a5, .ref a6])), (a5, .inl (E.2.1, 4, .inl (fun zz => nI (St zz))))] (fun r => r = nI (dist n (x - St s) (2520 - St s))) := by
  refine zR.start (own := RX5) rfl (by decide +kernel) rfl (Nat.le_of_ble_eq_true rfl) (fun _ _ => rfl) ?_
  intro pZ eZ sZ mZ argsZ belowZ methZ cZ QZ hF hret hP hG ls hl
  obtain ⟨hx, hb, hml, hown, hts⟩ := id hF
  have hl : lv_has ls 6 [(0, .ref t), (1, .int (nI s)), (2, .int (nI n)), (3, .int (nI x))] := hl
  have hsb := hst s hs
  refine lv_aload_n hx hb dX5_distanceFromNode_0 rfl (lv_at hl 0 rfl) ?_
  refine lv_iload_n hx hb dX5_distanceFromNode_1 rfl (lv_at hl 1 rfl) ?_
  have hPc := zP_sub (w := [(t, .inr (5, [.ref a0, .ref a1, .ref a2, .ref a3, .ref a4, .ref a5, .ref a6])), (a5, .inl (E.2.1, 4, .inl (fun zz => nI (St zz))))]) hP [0, 1] rfl
  refine z_rd (fun _ h => h) (va_runV (As := [.int (nI s)]) (rest := []) hF (c_X5_soundingLength l E t a0 a1 a2 a3 a4 a5 a6 s St (by omega) (hst)) (cwV 1 hts gX5_distanceFromNode_X5_soundingLength rfl rfl rfl (by decide +kernel) ⟨Nat.le_of_ble_eq_true rfl, Nat.le_of_ble_eq_true rfl⟩) (z_preRV (va_recv hG.1 hP (ci := 5) (q0 := 0) rfl rfl) hPc hG) rfl rfl hl.1 rfl (lv_room (Nat.le_of_ble_eq_true rfl)) dX5_distanceFromNode_2 ⟨Nat.zero_le _, Nat.zero_le _⟩) (fun r1 hr1 => ?_)
  subst hr1
  refine lv_istore (lv' := [(4, .int (nI (2520 - St s))), (0, .ref t), (1, .int (nI s)), (2, .int (nI n)), (3, .int (nI x))]) hx hb dX5_distanceFromNode_5 hl (by decide) rfl (fun ls hl => ?_)
  refine lv_iload hx hb dX5_distanceFromNode_7 (lv_at hl 0 rfl) ?_
  refine lv_iconst (v := nI 1) hx hb dX5_distanceFromNode_9 (by decide) ?_
  refine z_icmp_ge (a := 2520 - St s) (b := 1) (tgt := 15) hx hb dX5_distanceFromNode_10 (by decide) (by omega) (by omega) (fun c2 => ?_) (fun c2 => ?_)
  · -- 10 t
    refine lv_iload_n hx hb dX5_distanceFromNode_15 rfl (lv_at hl 3 rfl) ?_
    refine lv_iload_n hx hb dX5_distanceFromNode_16 rfl (lv_at hl 4 rfl) ?_
    refine lv_aload_n hx hb dX5_distanceFromNode_17 rfl (lv_at hl 1 rfl) ?_
    refine va_get (D := E.1) (ci := 5) (v := .ref a5) (C := RX5) (T := TX5) (N := 7) hx hb hts iwX5_distanceFromNode_X5_c_X5_distanceFromNode hown hG.1 hP 0 rfl rfl 5 (by decide) (hts (.fieldLink RX5 31 "FrettedStrings$Strings" "start" "[I") (by decide +kernel)) (fun _ h9 => h9) rfl dX5_distanceFromNode_18 ?_
    refine lv_iload_n hx hb dX5_distanceFromNode_21 rfl (lv_at hl 2 rfl) ?_
    refine z_iald (j := s) (v := St s) hx hb hG hP 1 rfl (by omega) (by decide) (rfl) dX5_distanceFromNode_22 ?_
    have b3 := hst s (by omega)
    refine z_isub (a := x) (b := St s) hx hb dX5_distanceFromNode_23 (by omega) ?_
    have hnx : n * (x - St s) ≤ 12 * 2519 := Nat.mul_le_mul hm2 (by omega)
    refine z_imul (a := n) (b := x - (St s)) hx hb dX5_distanceFromNode_24 ?_
    refine lv_iload hx hb dX5_distanceFromNode_25 (lv_at hl 0 rfl) ?_
    refine z_rd (fun _ h => h) (va_runS (As := [.int (nI (n * (x - (St s)))), .int (nI (2520 - St s))]) (rest := []) hF (c_floorMod l E (n * (x - (St s))) (2520 - St s) (by omega) (by omega) (by omega)) (va_cwS 2 hts gX5_distanceFromNode_J9_floorMod_7cf53 rfl rfl rfl (by decide +kernel) ⟨Nat.le_of_ble_eq_true rfl, Nat.le_of_ble_eq_true rfl⟩) (z_preR (fun k q h => by simp at h) hG) rfl rfl hl.1 rfl (lv_room (Nat.le_of_ble_eq_true rfl)) dX5_distanceFromNode_27 ⟨Nat.zero_le _, Nat.zero_le _⟩) (fun r4 hr4 => ?_)
    subst hr4
    have hml2 := Nat.mod_lt (n * (x - St s)) (show 0 < 2520 - St s by omega)
    refine lv_istore (lv' := [(5, .int (nI ((n * (x - (St s))) % (2520 - St s)))), (4, .int (nI (2520 - St s))), (0, .ref t), (1, .int (nI s)), (2, .int (nI n)), (3, .int (nI x))]) hx hb dX5_distanceFromNode_30 hl (by decide) rfl (fun ls hl => ?_)
    refine lv_iload hx hb dX5_distanceFromNode_32 (lv_at hl 0 rfl) ?_
    refine lv_iload hx hb dX5_distanceFromNode_34 (lv_at hl 1 rfl) ?_
    refine lv_iload hx hb dX5_distanceFromNode_36 (lv_at hl 0 rfl) ?_
    refine z_isub (a := 2520 - St s) (b := (n * (x - (St s))) % (2520 - St s)) hx hb dX5_distanceFromNode_38 (by omega) ?_
    refine z_mmin (a := (n * (x - (St s))) % (2520 - St s)) (b := (2520 - St s) - ((n * (x - (St s))) % (2520 - St s))) hx hb (hml.trans hl.1.symm) hown (hts (.methodLink RX5 72 Lib.Math.min.name) (by decide +kernel)) (hts (.static Lib.Math.min.name) (by decide +kernel)) (hts (.initialized "java/lang/Math") (by decide +kernel)) (hts (.code Lib.Math.min.name Lib.Math.min.code 2 (some .int)) (by decide +kernel)) (Nat.le_of_ble_eq_true rfl) (Nat.le_of_ble_eq_true rfl) (Nat.zero_le _) (Nat.zero_le _) (by omega) (by omega) dX5_distanceFromNode_39 ?_
    exact hret _ _ _ dX5_distanceFromNode_42 (rfl)
  · -- 10 f
    omega
theorem iwX5_hasNodeByDivisor_X5_c_X5_hasNodeByDivisor : ∀ w ∈ wsX50, w ∈ wsX5_hasNodeByDivisor := by decide +kernel
set_option maxHeartbeats 1000000 in
set_option maxRecDepth 100000 in
theorem c_X5_hasNodeByDivisor (l : Launch) (E : zE) (t a0 a1 a2 a3 a4 a5 a6 s n x : Nat) (St : Nat → Nat) (hs : s < 4) (hm1 : 1 ≤ n) (hm2 : n ≤ 12) (hst : ∀ i, i < 4 → St i ≤ 2400) (hx1 : St s < x) (hx2 : x ≤ 2519) : zR l yX5_hasNodeByDivisor wsX5_hasNodeByDivisor ({ frames := 1, cells := 0, slots := 0, locals := 25 }) E [.ref t, .int (nI s), .int (nI n), .int (nI x)] [(t, .inr (5, [.ref a0, .ref a1, .ref a2, .ref a3, .ref a4, .ref a5, .ref a6])), (a5, .inl (E.2.1, 4, .inl (fun zz => nI (St zz))))] (fun r => (r = nI 1 ∧ (n % ((2520 - St s) / Nat.gcd (2520 - St s) (x - St s)) = 0)) ∨ (r = nI 0 ∧ ¬ (n % ((2520 - St s) / Nat.gcd (2520 - St s) (x - St s)) = 0))) := by
  refine zR.start (own := RX5) rfl (by decide +kernel) rfl (Nat.le_of_ble_eq_true rfl) (z_nar) ?_
  intro pZ eZ sZ mZ argsZ belowZ methZ cZ QZ hF hret hP hG ls hl
  obtain ⟨hx, hb, hml, hown, hts⟩ := id hF
  have hl : lv_has ls 7 [(0, .ref t), (1, .int (nI s)), (2, .int (nI n)), (3, .int (nI x))] := hl
  have hsb := hst s hs
  refine lv_aload_n hx hb dX5_hasNodeByDivisor_0 rfl (lv_at hl 0 rfl) ?_
  refine lv_iload_n hx hb dX5_hasNodeByDivisor_1 rfl (lv_at hl 1 rfl) ?_
  have hPc := zP_sub (w := [(t, .inr (5, [.ref a0, .ref a1, .ref a2, .ref a3, .ref a4, .ref a5, .ref a6])), (a5, .inl (E.2.1, 4, .inl (fun zz => nI (St zz))))]) hP [0, 1] rfl
  refine z_rd (fun _ h => h) (va_runV (As := [.int (nI s)]) (rest := []) hF (c_X5_soundingLength l E t a0 a1 a2 a3 a4 a5 a6 s St (by omega) (hst)) (cwV 1 hts gX5_hasNodeByDivisor_X5_soundingLength rfl rfl rfl (by decide +kernel) ⟨Nat.le_of_ble_eq_true rfl, Nat.le_of_ble_eq_true rfl⟩) (z_preRV (va_recv hG.1 hP (ci := 5) (q0 := 0) rfl rfl) hPc hG) rfl rfl hl.1 rfl (lv_room (Nat.le_of_ble_eq_true rfl)) dX5_hasNodeByDivisor_2 ⟨Nat.zero_le _, Nat.zero_le _⟩) (fun r1 hr1 => ?_)
  subst hr1
  refine lv_istore (lv' := [(4, .int (nI (2520 - St s))), (0, .ref t), (1, .int (nI s)), (2, .int (nI n)), (3, .int (nI x))]) hx hb dX5_hasNodeByDivisor_5 hl (by decide) rfl (fun ls hl => ?_)
  refine lv_iload hx hb dX5_hasNodeByDivisor_7 (lv_at hl 0 rfl) ?_
  refine lv_iload_n hx hb dX5_hasNodeByDivisor_9 rfl (lv_at hl 4 rfl) ?_
  refine lv_aload_n hx hb dX5_hasNodeByDivisor_10 rfl (lv_at hl 1 rfl) ?_
  refine va_get (D := E.1) (ci := 5) (v := .ref a5) (C := RX5) (T := TX5) (N := 7) hx hb hts iwX5_hasNodeByDivisor_X5_c_X5_hasNodeByDivisor hown hG.1 hP 0 rfl rfl 5 (by decide) (hts (.fieldLink RX5 31 "FrettedStrings$Strings" "start" "[I") (by decide +kernel)) (fun _ h9 => h9) rfl dX5_hasNodeByDivisor_11 ?_
  refine lv_iload_n hx hb dX5_hasNodeByDivisor_14 rfl (lv_at hl 2 rfl) ?_
  refine z_iald (j := s) (v := St s) hx hb hG hP 1 rfl (by omega) (by decide) (rfl) dX5_hasNodeByDivisor_15 ?_
  have b2 := hst s (by omega)
  refine z_isub (a := x) (b := St s) hx hb dX5_hasNodeByDivisor_16 (by omega) ?_
  refine z_rd (fun _ h => h) (va_runSN (As := [.int (nI (2520 - St s)), .int (nI (x - (St s)))]) (rest := []) hF (c_X6_greatestCommonDivisor l E (2520 - St s) (x - (St s)) (by omega) (by omega) (by omega)) ⟨va_cnB (host := RX6) 2 hts gX5_hasNodeByDivisor_X6_greatestCommonDivisor_n75 rfl rfl rfl (hG.2 _ (List.mem_of_getElem? (i := 8) rfl)) (hts (.initialized RX6) (by decide +kernel)) (by decide +kernel) ⟨Nat.le_of_ble_eq_true rfl, Nat.le_of_ble_eq_true rfl⟩, hts (.static yX6_greatestCommonDivisor) (by decide +kernel), trivial⟩ (z_preR (fun k q h => by simp at h) hG) rfl rfl hl.1 rfl (lv_room (Nat.le_of_ble_eq_true rfl)) dX5_hasNodeByDivisor_17 ⟨Nat.zero_le _, Nat.zero_le _⟩) (fun r3 hr3 => ?_)
  subst hr3
  have hg1 : Nat.gcd (2520 - St s) (x - St s) ≤ 2520 - St s := Nat.gcd_le_left _ (by omega)
  have hg0 : 0 < Nat.gcd (2520 - St s) (x - St s) := Nat.gcd_pos_of_pos_left _ (by omega)
  have hq0 : 0 < (2520 - St s) / Nat.gcd (2520 - St s) (x - St s) := Nat.div_pos hg1 hg0
  have hq1 : (2520 - St s) / Nat.gcd (2520 - St s) (x - St s) ≤ 2520 - St s := Nat.div_le_self _ _
  refine lv_istore (lv' := [(5, .int (nI (Nat.gcd (2520 - St s) (x - (St s))))), (4, .int (nI (2520 - St s))), (0, .ref t), (1, .int (nI s)), (2, .int (nI n)), (3, .int (nI x))]) hx hb dX5_hasNodeByDivisor_20 hl (by decide) rfl (fun ls hl => ?_)
  refine lv_iload hx hb dX5_hasNodeByDivisor_22 (lv_at hl 0 rfl) ?_
  refine lv_iconst (v := nI 1) hx hb dX5_hasNodeByDivisor_24 (by decide) ?_
  refine z_icmp_ge (a := Nat.gcd (2520 - St s) (x - (St s))) (b := 1) (tgt := 32) hx hb dX5_hasNodeByDivisor_25 (by decide) (by omega) (by omega) (fun c4 => ?_) (fun c4 => ?_)
  · -- 25 t
    refine lv_iload hx hb dX5_hasNodeByDivisor_32 (lv_at hl 1 rfl) ?_
    refine lv_iload hx hb dX5_hasNodeByDivisor_34 (lv_at hl 0 rfl) ?_
    refine z_idiv (a := 2520 - St s) (b := Nat.gcd (2520 - St s) (x - (St s))) hx hb dX5_hasNodeByDivisor_36 (by omega) (by omega) (by omega) ?_
    refine lv_istore (lv' := [(6, .int (nI ((2520 - St s) / (Nat.gcd (2520 - St s) (x - (St s)))))), (5, .int (nI (Nat.gcd (2520 - St s) (x - (St s))))), (4, .int (nI (2520 - St s))), (0, .ref t), (1, .int (nI s)), (2, .int (nI n)), (3, .int (nI x))]) hx hb dX5_hasNodeByDivisor_37 hl (by decide) rfl (fun ls hl => ?_)
    refine lv_iload hx hb dX5_hasNodeByDivisor_39 (lv_at hl 0 rfl) ?_
    refine z_if_le (a := (2520 - St s) / (Nat.gcd (2520 - St s) (x - (St s)))) (tgt := 55) hx hb dX5_hasNodeByDivisor_41 (by decide) (by omega) (fun c5 => ?_) (fun c5 => ?_)
    · -- 41 t
      omega
    · -- 41 f
      refine lv_iload_n hx hb dX5_hasNodeByDivisor_44 rfl (lv_at hl 5 rfl) ?_
      refine lv_iload hx hb dX5_hasNodeByDivisor_45 (lv_at hl 0 rfl) ?_
      refine z_irem (a := n) (b := (2520 - St s) / (Nat.gcd (2520 - St s) (x - (St s)))) hx hb dX5_hasNodeByDivisor_47 (by omega) (by omega) (by omega) ?_
      have hmm := Nat.mod_lt n hq0
      refine z_if_ne (a := n % ((2520 - St s) / (Nat.gcd (2520 - St s) (x - (St s))))) (tgt := 55) hx hb dX5_hasNodeByDivisor_48 (by decide) (by omega) (fun c6 => ?_) (fun c6 => ?_)
      · -- 48 t
        refine lv_iconst (v := nI 0) hx hb dX5_hasNodeByDivisor_55 (by decide) ?_
        exact hret _ _ _ dX5_hasNodeByDivisor_56 (Or.inr ⟨rfl, by omega⟩)
      · -- 48 f
        refine lv_iconst (v := nI 1) hx hb dX5_hasNodeByDivisor_51 (by decide) ?_
        refine lv_goto (tgt := 56) hx hb dX5_hasNodeByDivisor_52 (by decide) ?_
        exact hret _ _ _ dX5_hasNodeByDivisor_56 (Or.inl ⟨rfl, by omega⟩)
  · -- 25 f
    omega
set_option maxHeartbeats 1000000 in
set_option maxRecDepth 100000 in
theorem c_X5_wholeNodes (l : Launch) (E : zE) (t a0 a1 a2 a3 a4 a5 a6 s n : Nat) (St : Nat → Nat) (hs : s < 4) (hm1 : 1 ≤ n) (hm2 : n ≤ 12) (hst : ∀ i, i < 4 → St i ≤ 2400) : zR l yX5_wholeNodes wsX5_wholeNodes ({ frames := 1, cells := 0, slots := 0, locals := 25 }) E [.ref t, .int (nI s), .int (nI n)] [(t, .inr (5, [.ref a0, .ref a1, .ref a2, .ref a3, .ref a4, .ref a5, .ref a6])), (a5, .inl (E.2.1, 4, .inl (fun zz => nI (St zz))))] (fun r => r = nI (Nat.gcd (2520 - St s) n - 1)) := by
  refine zR.start (own := RX5) rfl (by decide +kernel) rfl (Nat.le_of_ble_eq_true rfl) (fun _ _ => rfl) ?_
  intro pZ eZ sZ mZ argsZ belowZ methZ cZ QZ hF hret hP hG ls hl
  obtain ⟨hx, hb, hml, hown, hts⟩ := id hF
  have hl : lv_has ls 3 [(0, .ref t), (1, .int (nI s)), (2, .int (nI n))] := hl
  have hsb := hst s hs
  refine lv_aload_n hx hb dX5_wholeNodes_0 rfl (lv_at hl 0 rfl) ?_
  refine lv_iload_n hx hb dX5_wholeNodes_1 rfl (lv_at hl 1 rfl) ?_
  have hPc := zP_sub (w := [(t, .inr (5, [.ref a0, .ref a1, .ref a2, .ref a3, .ref a4, .ref a5, .ref a6])), (a5, .inl (E.2.1, 4, .inl (fun zz => nI (St zz))))]) hP [0, 1] rfl
  refine z_rd (fun _ h => h) (va_runV (As := [.int (nI s)]) (rest := []) hF (c_X5_soundingLength l E t a0 a1 a2 a3 a4 a5 a6 s St (by omega) (hst)) (cwV 1 hts gX5_wholeNodes_X5_soundingLength rfl rfl rfl (by decide +kernel) ⟨Nat.le_of_ble_eq_true rfl, Nat.le_of_ble_eq_true rfl⟩) (z_preRV (va_recv hG.1 hP (ci := 5) (q0 := 0) rfl rfl) hPc hG) rfl rfl hl.1 rfl (lv_room (Nat.le_of_ble_eq_true rfl)) dX5_wholeNodes_2 ⟨Nat.zero_le _, Nat.zero_le _⟩) (fun r1 hr1 => ?_)
  subst hr1
  refine lv_iload_n hx hb dX5_wholeNodes_5 rfl (lv_at hl 2 rfl) ?_
  refine z_rd (fun _ h => h) (va_runSN (As := [.int (nI (2520 - St s)), .int (nI n)]) (rest := []) hF (c_X6_greatestCommonDivisor l E (2520 - St s) n (by omega) (by omega) (by omega)) ⟨va_cnB (host := RX6) 2 hts gX5_wholeNodes_X6_greatestCommonDivisor_n75 rfl rfl rfl (hG.2 _ (List.mem_of_getElem? (i := 8) rfl)) (hts (.initialized RX6) (by decide +kernel)) (by decide +kernel) ⟨Nat.le_of_ble_eq_true rfl, Nat.le_of_ble_eq_true rfl⟩, hts (.static yX6_greatestCommonDivisor) (by decide +kernel), trivial⟩ (z_preR (fun k q h => by simp at h) hG) rfl rfl hl.1 rfl (lv_room (Nat.le_of_ble_eq_true rfl)) dX5_wholeNodes_6 ⟨Nat.zero_le _, Nat.zero_le _⟩) (fun r2 hr2 => ?_)
  subst hr2
  have hg0 : 0 < Nat.gcd (2520 - St s) n := Nat.gcd_pos_of_pos_left _ (by omega)
  refine lv_iconst (v := nI 1) hx hb dX5_wholeNodes_9 (by decide) ?_
  refine z_isub (a := Nat.gcd (2520 - St s) n) (b := 1) hx hb dX5_wholeNodes_10 (by omega) ?_
  exact hret _ _ _ dX5_wholeNodes_11 (by first | rfl | (congr 1; omega))
set_option maxHeartbeats 1000000 in
set_option maxRecDepth 100000 in
theorem c_X5_wake (l : Launch) (E : zE) (t a0 a1 a2 a3 a4 a5 a6 s x q : Nat) (St Am : Nat → Nat) (hs : s < 4) (hst : ∀ i, i < 4 → St i ≤ 2400) (hx1 : St s < x) (hx2 : x ≤ 2519) (hq : q ≤ 1000) (ham : ∀ i, i < 48 → Am i ≤ 1000000) : zV l yX5_wake wsX5_wake ({ frames := 2, cells := 0, slots := 0, locals := 47 }) E [.ref t, .int (nI s), .int (nI x), .int (nI q)] [(t, .inr (5, [.ref a0, .ref a1, .ref a2, .ref a3, .ref a4, .ref a5, .ref a6])), (a5, .inl (E.2.1, 4, .inl (fun zz => nI (St zz)))), (a6, .inl (E.2.1, 48, .inl (fun zz => nI (Am zz))))] (fun w' => w' = [(t, .inr (5, [.ref a0, .ref a1, .ref a2, .ref a3, .ref a4, .ref a5, .ref a6])), (a5, .inl (E.2.1, 4, .inl (fun zz => nI (St zz)))), (a6, .inl (E.2.1, 48, .inl (fun zz => nI ((wakeL Am s (x - St s) (2520 - St s) q 12) zz))))]) := by
  refine zV.start (own := RX5) rfl (by decide +kernel) rfl (Nat.le_of_ble_eq_true rfl) ?_
  intro pZ eZ sZ mZ argsZ belowZ methZ cZ QZ AZ hF hret HZ locsZ hP hD hS hG ls hl
  obtain ⟨hx, hb, hml, hown, hts⟩ := id hF
  have hl : lv_has ls 8 [(0, .ref t), (1, .int (nI s)), (2, .int (nI x)), (3, .int (nI q))] := hl
  have hsb := hst s hs
  refine lv_iconst (v := nI 1) hx hb dX5_wake_0 (by decide) ?_
  refine lv_istore (lv' := [(4, .int (nI 1)), (0, .ref t), (1, .int (nI s)), (2, .int (nI x)), (3, .int (nI q))]) hx hb dX5_wake_1 hl (by decide) rfl (fun ls hl => ?_)
  have L3_1 : ∀ (fuelZ : Nat) (g : Nat), 13 - g < fuelZ → (1 ≤ g) → (g ≤ 13) → ∀ (HZ : Heap) (locsZ : List Loc), va_P E.1 vwCl [(t, .inr (5, [.ref a0, .ref a1, .ref a2, .ref a3, .ref a4, .ref a5, .ref a6])), (a5, .inl (E.2.1, 4, .inl (fun zz => nI (St zz)))), (a6, .inl (E.2.1, 48, .inl (fun zz => nI ((wakeL Am s (x - St s) (2520 - St s) q (g - 1)) zz))))] HZ → va_D AZ [(t, .inr (5, [.ref a0, .ref a1, .ref a2, .ref a3, .ref a4, .ref a5, .ref a6])), (a5, .inl (E.2.1, 4, .inl (fun zz => nI (St zz)))), (a6, .inl (E.2.1, 48, .inl (fun zz => nI ((wakeL Am s (x - St s) (2520 - St s) q (g - 1)) zz))))] → va_S AZ sZ.heap HZ locsZ → ∀ ls : Array Slot, lv_has ls 8 [(4, .int (nI g)), (0, .ref t), (1, .int (nI s)), (2, .int (nI x)), (3, .int (nI q))] → W pZ l eZ ({ frames := 2, cells := 0, slots := 0, locals := 47 }) sZ mZ argsZ belowZ methZ cZ HZ locsZ 0 0 QZ (F0 mZ 3 ls []) := by
    intro fuelZ
    induction fuelZ with
    | zero => intro g hm; exact absurd hm (Nat.not_lt_zero _)
    | succ fuelZ ih3 =>
      intro g hm i0 i1 HZ locsZ hP hD hS ls hl
      refine lv_iload hx hb dX5_wake_3 (lv_at hl 0 rfl) ?_
      refine lv_bipush (v := nI 12) hx hb dX5_wake_5 (by decide) ?_
      refine z_icmp_gt (a := g) (b := 12) (tgt := 81) hx hb dX5_wake_7 (by decide) (by omega) (by omega) (fun c2 => ?_) (fun c2 => ?_)
      · -- 7 t
        have e3 : (wakeL Am s (x - St s) (2520 - St s) q (g - 1) : Nat → Nat) = wakeL Am s (x - St s) (2520 - St s) q 12 := by first | rfl | (rw [show g = 13 by omega])
        have hP : va_P E.1 vwCl [(t, .inr (5, [.ref a0, .ref a1, .ref a2, .ref a3, .ref a4, .ref a5, .ref a6])), (a5, .inl (E.2.1, 4, .inl (fun zz => nI (St zz)))), (a6, .inl (E.2.1, 48, .inl (fun zz => nI ((wakeL Am s (x - St s) (2520 - St s) q 12) zz))))] HZ := Eq.subst (motive := fun XX : Nat → Nat => va_P E.1 vwCl [(t, .inr (5, [.ref a0, .ref a1, .ref a2, .ref a3, .ref a4, .ref a5, .ref a6])), (a5, .inl (E.2.1, 4, .inl (fun zz => nI (St zz)))), (a6, .inl (E.2.1, 48, .inl (fun zz => nI (XX zz))))] HZ) e3 hP
        have hD : va_D AZ [(t, .inr (5, [.ref a0, .ref a1, .ref a2, .ref a3, .ref a4, .ref a5, .ref a6])), (a5, .inl (E.2.1, 4, .inl (fun zz => nI (St zz)))), (a6, .inl (E.2.1, 48, .inl (fun zz => nI ((wakeL Am s (x - St s) (2520 - St s) q 12) zz))))] := Eq.subst (motive := fun XX : Nat → Nat => va_D AZ [(t, .inr (5, [.ref a0, .ref a1, .ref a2, .ref a3, .ref a4, .ref a5, .ref a6])), (a5, .inl (E.2.1, 4, .inl (fun zz => nI (St zz)))), (a6, .inl (E.2.1, 48, .inl (fun zz => nI (XX zz))))]) e3 hD
        exact hret _ _ _ _ _ hP hS dX5_wake_81 rfl rfl
      · -- 7 f
        refine lv_aload_n hx hb dX5_wake_10 rfl (lv_at hl 1 rfl) ?_
        refine lv_iload_n hx hb dX5_wake_11 rfl (lv_at hl 2 rfl) ?_
        refine lv_iload hx hb dX5_wake_12 (lv_at hl 0 rfl) ?_
        refine lv_iload_n hx hb dX5_wake_14 rfl (lv_at hl 3 rfl) ?_
        have hPc := zP_sub (w := [(t, .inr (5, [.ref a0, .ref a1, .ref a2, .ref a3, .ref a4, .ref a5, .ref a6])), (a5, .inl (E.2.1, 4, .inl (fun zz => nI (St zz))))]) hP [0, 1] rfl
        refine z_rd (fun _ h => h) (va_runV (As := [.int (nI s), .int (nI g), .int (nI x)]) (rest := []) hF (c_X5_distanceFromNode l E t a0 a1 a2 a3 a4 a5 a6 s g x St (by omega) (by omega) (by omega) (hst) (by omega) (by omega)) (cwV 3 hts gX5_wake_X5_distanceFromNode rfl rfl rfl (by decide +kernel) ⟨Nat.le_of_ble_eq_true rfl, Nat.le_of_ble_eq_true rfl⟩) (z_preRV (va_recv hG.1 hP (ci := 5) (q0 := 0) rfl rfl) hPc hG) rfl rfl hl.1 rfl (lv_room (Nat.le_of_ble_eq_true rfl)) dX5_wake_15 ⟨Nat.zero_le _, Nat.zero_le _⟩) (fun r4 hr4 => ?_)
        subst hr4
        have hd1 := dist_half (n := g) (y := x - St s) (ln := 2520 - St s) (by omega)
        refine lv_istore (lv' := [(5, .int (nI (dist g (x - St s) (2520 - St s)))), (4, .int (nI g)), (0, .ref t), (1, .int (nI s)), (2, .int (nI x)), (3, .int (nI q))]) hx hb dX5_wake_18 hl (by decide) rfl (fun ls hl => ?_)
        refine lv_aload_n hx hb dX5_wake_20 rfl (lv_at hl 2 rfl) ?_
        refine lv_iload_n hx hb dX5_wake_21 rfl (lv_at hl 3 rfl) ?_
        have hPc := zP_sub (w := [(t, .inr (5, [.ref a0, .ref a1, .ref a2, .ref a3, .ref a4, .ref a5, .ref a6])), (a5, .inl (E.2.1, 4, .inl (fun zz => nI (St zz))))]) hP [0, 1] rfl
        refine z_rd (fun _ h => h) (va_runV (As := [.int (nI s)]) (rest := []) hF (c_X5_soundingLength l E t a0 a1 a2 a3 a4 a5 a6 s St (by omega) (hst)) (cwV 1 hts gX5_wake_X5_soundingLength rfl rfl rfl (by decide +kernel) ⟨Nat.le_of_ble_eq_true rfl, Nat.le_of_ble_eq_true rfl⟩) (z_preRV (va_recv hG.1 hP (ci := 5) (q0 := 0) rfl rfl) hPc hG) rfl rfl hl.1 rfl (lv_room (Nat.le_of_ble_eq_true rfl)) dX5_wake_22 ⟨Nat.zero_le _, Nat.zero_le _⟩) (fun r5 hr5 => ?_)
        subst hr5
        refine lv_iload hx hb dX5_wake_25 (lv_at hl 1 rfl) ?_
        refine z_imul (a := 2520 - St s) (b := g) hx hb dX5_wake_27 ?_
        have hlg : (2520 - St s) * g ≤ 2520 * 12 := Nat.mul_le_mul (by omega) (by omega)
        have hlg0 : 0 < (2520 - St s) * g := Nat.mul_pos (by omega) (by omega)
        refine lv_istore (lv' := [(6, .int (nI ((2520 - St s) * g))), (5, .int (nI (dist g (x - St s) (2520 - St s)))), (4, .int (nI g)), (0, .ref t), (1, .int (nI s)), (2, .int (nI x)), (3, .int (nI q))]) hx hb dX5_wake_28 hl (by decide) rfl (fun ls hl => ?_)
        refine lv_iload hx hb dX5_wake_30 (lv_at hl 0 rfl) ?_
        refine lv_iconst (v := nI 1) hx hb dX5_wake_32 (by decide) ?_
        refine z_icmp_ge (a := (2520 - St s) * g) (b := 1) (tgt := 40) hx hb dX5_wake_33 (by decide) (by omega) (by omega) (fun c6 => ?_) (fun c6 => ?_)
        · -- 33 t
          refine lv_iload_n hx hb dX5_wake_40 rfl (lv_at hl 6 rfl) ?_
          refine lv_iload hx hb dX5_wake_41 (lv_at hl 1 rfl) ?_
          refine z_imul (a := q) (b := dist g (x - St s) (2520 - St s)) hx hb dX5_wake_43 ?_
          refine lv_sipush (v := nI 1000) hx hb dX5_wake_44 (by decide) ?_
          refine z_imul (a := q * (dist g (x - St s) (2520 - St s))) (b := 1000) hx hb dX5_wake_47 ?_
          refine lv_iload hx hb dX5_wake_48 (lv_at hl 0 rfl) ?_
          have hqd := wk_b (ln := 0) (g := 0) hq (show dist g (x - St s) (2520 - St s) ≤ 1260 by omega)
          refine z_idiv (a := (q * (dist g (x - St s) (2520 - St s))) * 1000) (b := (2520 - St s) * g) hx hb dX5_wake_50 (by omega) (by omega) (by omega) ?_
          refine lv_istore (lv' := [(7, .int (nI (((q * (dist g (x - St s) (2520 - St s))) * 1000) / ((2520 - St s) * g)))), (6, .int (nI ((2520 - St s) * g))), (5, .int (nI (dist g (x - St s) (2520 - St s)))), (4, .int (nI g)), (0, .ref t), (1, .int (nI s)), (2, .int (nI x)), (3, .int (nI q))]) hx hb dX5_wake_51 hl (by decide) rfl (fun ls hl => ?_)
          refine lv_aload_n hx hb dX5_wake_53 rfl (lv_at hl 4 rfl) ?_
          refine lv_iload_n hx hb dX5_wake_54 rfl (lv_at hl 5 rfl) ?_
          refine lv_iload hx hb dX5_wake_55 (lv_at hl 3 rfl) ?_
          refine lv_ldc (v := nI 1000000) hx hb hown (hts (.constant RX5 9 1000000) (by decide +kernel)) dX5_wake_57 ?_
          refine lv_aload_n hx hb dX5_wake_59 rfl (lv_at hl 4 rfl) ?_
          refine lv_iload_n hx hb dX5_wake_60 rfl (lv_at hl 5 rfl) ?_
          refine lv_iload hx hb dX5_wake_61 (lv_at hl 3 rfl) ?_
          have hPc := zP_sub (w := [(t, .inr (5, [.ref a0, .ref a1, .ref a2, .ref a3, .ref a4, .ref a5, .ref a6])), (a6, .inl (E.2.1, 48, .inl (fun zz => nI ((wakeL Am s (x - St s) (2520 - St s) q (g - 1)) zz))))]) hP [0, 2] rfl
          refine z_rd (fun _ h => h) (va_runV (As := [.int (nI s), .int (nI g)]) (rest := [.int (nI 1000000), .int (nI g), .int (nI s), .ref t]) hF (c_X5_amplitudeOf l E t a0 a1 a2 a3 a4 a5 a6 s g (wakeL Am s (x - St s) (2520 - St s) q (g - 1)) (by omega) (by omega) (by omega)) (cwV 2 hts gX5_wake_X5_amplitudeOf rfl rfl rfl (by decide +kernel) ⟨Nat.le_of_ble_eq_true rfl, Nat.le_of_ble_eq_true rfl⟩) (z_preRV (va_recv hG.1 hP (ci := 5) (q0 := 0) rfl rfl) hPc hG) rfl rfl hl.1 rfl (lv_room (Nat.le_of_ble_eq_true rfl)) dX5_wake_63 ⟨Nat.zero_le _, Nat.zero_le _⟩) (fun r7 hr7 => ?_)
          subst hr7
          have hamg := ham (s * 12 + g - 1) (by omega)
          have hwa := wakeL_at Am (s := s) (y := x - St s) (ln := 2520 - St s) (q := q) i0
          have hdv : q * dist g (x - St s) (2520 - St s) * 1000 / ((2520 - St s) * g) ≤ q * dist g (x - St s) (2520 - St s) * 1000 := Nat.div_le_self _ _
          refine lv_iload hx hb dX5_wake_66 (lv_at hl 0 rfl) ?_
          refine z_iadd (a := (wakeL Am s (x - St s) (2520 - St s) q (g - 1)) (s * 12 + g - 1)) (b := ((q * (dist g (x - St s) (2520 - St s))) * 1000) / ((2520 - St s) * g)) hx hb dX5_wake_68 ?_
          refine z_mmin (a := 1000000) (b := ((wakeL Am s (x - St s) (2520 - St s) q (g - 1)) (s * 12 + g - 1)) + (((q * (dist g (x - St s) (2520 - St s))) * 1000) / ((2520 - St s) * g))) hx hb (hml.trans hl.1.symm) hown (hts (.methodLink RX5 72 Lib.Math.min.name) (by decide +kernel)) (hts (.static Lib.Math.min.name) (by decide +kernel)) (hts (.initialized "java/lang/Math") (by decide +kernel)) (hts (.code Lib.Math.min.name Lib.Math.min.code 2 (some .int)) (by decide +kernel)) (Nat.le_of_ble_eq_true rfl) (Nat.le_of_ble_eq_true rfl) (Nat.zero_le _) (Nat.zero_le _) (by omega) (by omega) dX5_wake_69 ?_
          have hPc := zP_sub (w := [(t, .inr (5, [.ref a0, .ref a1, .ref a2, .ref a3, .ref a4, .ref a5, .ref a6])), (a6, .inl (E.2.1, 48, .inl (fun zz => nI ((wakeL Am s (x - St s) (2520 - St s) q (g - 1)) zz))))]) hP [0, 2] rfl
          have hDc := zD_sub (w := [(t, .inr (5, [.ref a0, .ref a1, .ref a2, .ref a3, .ref a4, .ref a5, .ref a6])), (a6, .inl (E.2.1, 48, .inl (fun zz => nI ((wakeL Am s (x - St s) (2520 - St s) q (g - 1)) zz))))]) hD [0, 2] (by decide) rfl
          refine z_vd [0, 2] (va_runV (As := [.int (nI s), .int (nI g), .int (nI (min 1000000 (((wakeL Am s (x - St s) (2520 - St s) q (g - 1)) (s * 12 + g - 1)) + (((q * (dist g (x - St s) (2520 - St s))) * 1000) / ((2520 - St s) * g)))))]) (rest := []) hF (c_X5_setAmplitude l E t a0 a1 a2 a3 a4 a5 a6 s g (min 1000000 (((wakeL Am s (x - St s) (2520 - St s) q (g - 1)) (s * 12 + g - 1)) + (((q * (dist g (x - St s) (2520 - St s))) * 1000) / ((2520 - St s) * g)))) (wakeL Am s (x - St s) (2520 - St s) q (g - 1)) (by omega) (by omega) (by omega)) (cwV 3 hts gX5_wake_X5_setAmplitude rfl rfl rfl (by decide +kernel) ⟨Nat.le_of_ble_eq_true rfl, Nat.le_of_ble_eq_true rfl⟩) (z_preMV (va_recv hG.1 hP (ci := 5) (q0 := 0) rfl rfl) hPc hDc hG) rfl rfl hl.1 rfl (lv_room (Nat.le_of_ble_eq_true rfl)) dX5_wake_72 ⟨Nat.zero_le _, Nat.zero_le _⟩) hP hD hS rfl (fun w' HZ locsZ hw hP hD hS => ?_)
          subst hw
          have hP : va_P E.1 vwCl [(t, .inr (5, [.ref a0, .ref a1, .ref a2, .ref a3, .ref a4, .ref a5, .ref a6])), (a5, .inl (E.2.1, 4, .inl (fun zz => nI (St zz)))), (a6, .inl (E.2.1, 48, .inl (fun zz => nI ((va_up (wakeL Am s (x - St s) (2520 - St s) q (g - 1)) (s * 12 + g - 1) (min 1000000 (((wakeL Am s (x - St s) (2520 - St s) q (g - 1)) (s * 12 + g - 1)) + (((q * (dist g (x - St s) (2520 - St s))) * 1000) / ((2520 - St s) * g))))) zz))))] _ := hP
          have hD : va_D AZ [(t, .inr (5, [.ref a0, .ref a1, .ref a2, .ref a3, .ref a4, .ref a5, .ref a6])), (a5, .inl (E.2.1, 4, .inl (fun zz => nI (St zz)))), (a6, .inl (E.2.1, 48, .inl (fun zz => nI ((va_up (wakeL Am s (x - St s) (2520 - St s) q (g - 1)) (s * 12 + g - 1) (min 1000000 (((wakeL Am s (x - St s) (2520 - St s) q (g - 1)) (s * 12 + g - 1)) + (((q * (dist g (x - St s) (2520 - St s))) * 1000) / ((2520 - St s) * g))))) zz))))] := hD
          refine z_iinc (k := 3) (d := 1) (lv' := [(4, .int (nI (g + 1))), (7, .int (nI (((q * (dist g (x - St s) (2520 - St s))) * 1000) / ((2520 - St s) * g)))), (6, .int (nI ((2520 - St s) * g))), (5, .int (nI (dist g (x - St s) (2520 - St s)))), (0, .ref t), (1, .int (nI s)), (2, .int (nI x)), (3, .int (nI q))]) hx hb dX5_wake_75 (by decide) hl rfl (by decide) rfl (fun ls hl => ?_)
          refine lv_goto (tgt := 3) hx hb dX5_wake_78 (by decide) ?_
          have e8 : (va_up (wakeL Am s (x - St s) (2520 - St s) q (g - 1)) (s * 12 + g - 1) (min 1000000 (((wakeL Am s (x - St s) (2520 - St s) q (g - 1)) (s * 12 + g - 1)) + (((q * (dist g (x - St s) (2520 - St s))) * 1000) / ((2520 - St s) * g)))) : Nat → Nat) = wakeL Am s (x - St s) (2520 - St s) q ((g + 1) - 1) := by first | rfl | (rw [wakeL_at Am i0]; exact wakeL_s Am i0)
          have hP : va_P E.1 vwCl [(t, .inr (5, [.ref a0, .ref a1, .ref a2, .ref a3, .ref a4, .ref a5, .ref a6])), (a5, .inl (E.2.1, 4, .inl (fun zz => nI (St zz)))), (a6, .inl (E.2.1, 48, .inl (fun zz => nI ((wakeL Am s (x - St s) (2520 - St s) q ((g + 1) - 1)) zz))))] HZ := Eq.subst (motive := fun XX : Nat → Nat => va_P E.1 vwCl [(t, .inr (5, [.ref a0, .ref a1, .ref a2, .ref a3, .ref a4, .ref a5, .ref a6])), (a5, .inl (E.2.1, 4, .inl (fun zz => nI (St zz)))), (a6, .inl (E.2.1, 48, .inl (fun zz => nI (XX zz))))] HZ) e8 hP
          have hD : va_D AZ [(t, .inr (5, [.ref a0, .ref a1, .ref a2, .ref a3, .ref a4, .ref a5, .ref a6])), (a5, .inl (E.2.1, 4, .inl (fun zz => nI (St zz)))), (a6, .inl (E.2.1, 48, .inl (fun zz => nI ((wakeL Am s (x - St s) (2520 - St s) q ((g + 1) - 1)) zz))))] := Eq.subst (motive := fun XX : Nat → Nat => va_D AZ [(t, .inr (5, [.ref a0, .ref a1, .ref a2, .ref a3, .ref a4, .ref a5, .ref a6])), (a5, .inl (E.2.1, 4, .inl (fun zz => nI (St zz)))), (a6, .inl (E.2.1, 48, .inl (fun zz => nI (XX zz))))]) e8 hD
          exact ih3 (g + 1) (by omega) (by omega) (by omega) _ _ hP hD hS _ (lv_sub hl [0, 4, 5, 6, 7] rfl)
        · -- 33 f
          omega
  have e9 : (Am : Nat → Nat) = wakeL Am s (x - St s) (2520 - St s) q (1 - 1) := by first | rfl | (exact wakeL_0 Am _ _ _ _)
  have hP : va_P E.1 vwCl [(t, .inr (5, [.ref a0, .ref a1, .ref a2, .ref a3, .ref a4, .ref a5, .ref a6])), (a5, .inl (E.2.1, 4, .inl (fun zz => nI (St zz)))), (a6, .inl (E.2.1, 48, .inl (fun zz => nI ((wakeL Am s (x - St s) (2520 - St s) q (1 - 1)) zz))))] HZ := Eq.subst (motive := fun XX : Nat → Nat => va_P E.1 vwCl [(t, .inr (5, [.ref a0, .ref a1, .ref a2, .ref a3, .ref a4, .ref a5, .ref a6])), (a5, .inl (E.2.1, 4, .inl (fun zz => nI (St zz)))), (a6, .inl (E.2.1, 48, .inl (fun zz => nI (XX zz))))] HZ) e9 hP
  have hD : va_D AZ [(t, .inr (5, [.ref a0, .ref a1, .ref a2, .ref a3, .ref a4, .ref a5, .ref a6])), (a5, .inl (E.2.1, 4, .inl (fun zz => nI (St zz)))), (a6, .inl (E.2.1, 48, .inl (fun zz => nI ((wakeL Am s (x - St s) (2520 - St s) q (1 - 1)) zz))))] := Eq.subst (motive := fun XX : Nat → Nat => va_D AZ [(t, .inr (5, [.ref a0, .ref a1, .ref a2, .ref a3, .ref a4, .ref a5, .ref a6])), (a5, .inl (E.2.1, 4, .inl (fun zz => nI (St zz)))), (a6, .inl (E.2.1, 48, .inl (fun zz => nI (XX zz))))]) e9 hD
  exact L3_1 ((13 - 1) + 1) 1 (Nat.lt_succ_self _) (by omega) (by omega) _ _ hP hD hS _ (lv_sub hl [0, 1, 2, 3, 4] rfl)
theorem iwX5_isDamped_X5_c_X5_isDamped : ∀ w ∈ wsX50, w ∈ wsX5_isDamped := by decide +kernel
set_option maxHeartbeats 1000000 in
set_option maxRecDepth 100000 in
theorem c_X5_isDamped (l : Launch) (E : zE) (t a0 a1 a2 a3 a4 a5 a6 s n : Nat) (Fi St : Nat → Nat) (hs : s < 4) (hm1 : 1 ≤ n) (hm2 : n ≤ 12) (hst : ∀ i, i < 4 → St i ≤ 2400) (hfi : ∀ i, i < 4 → Fi i ≤ 2519) : zR l yX5_isDamped wsX5_isDamped ({ frames := 2, cells := 0, slots := 0, locals := 47 }) E [.ref t, .int (nI s), .int (nI n)] [(t, .inr (5, [.ref a0, .ref a1, .ref a2, .ref a3, .ref a4, .ref a5, .ref a6])), (a2, .inl (E.2.1, 4, .inl (fun zz => nI (Fi zz)))), (a5, .inl (E.2.1, 4, .inl (fun zz => nI (St zz))))] (fun r => (r = nI 1 ∧ (St s < Fi s ∧ dist n (Fi s - St s) (2520 - St s) ≠ 0)) ∨ (r = nI 0 ∧ ¬ (St s < Fi s ∧ dist n (Fi s - St s) (2520 - St s) ≠ 0))) := by
  refine zR.start (own := RX5) rfl (by decide +kernel) rfl (Nat.le_of_ble_eq_true rfl) (z_nar) ?_
  intro pZ eZ sZ mZ argsZ belowZ methZ cZ QZ hF hret hP hG ls hl
  obtain ⟨hx, hb, hml, hown, hts⟩ := id hF
  have hl : lv_has ls 3 [(0, .ref t), (1, .int (nI s)), (2, .int (nI n))] := hl
  refine lv_aload_n hx hb dX5_isDamped_0 rfl (lv_at hl 0 rfl) ?_
  refine va_get (D := E.1) (ci := 5) (v := .ref a2) (C := RX5) (T := TX5) (N := 7) hx hb hts iwX5_isDamped_X5_c_X5_isDamped hown hG.1 hP 0 rfl rfl 2 (by decide) (hts (.fieldLink RX5 22 "FrettedStrings$Strings" "finger" "[I") (by decide +kernel)) (fun _ h9 => h9) rfl dX5_isDamped_1 ?_
  refine lv_iload_n hx hb dX5_isDamped_4 rfl (lv_at hl 1 rfl) ?_
  refine z_iald (j := s) (v := Fi s) hx hb hG hP 1 rfl (by omega) (by decide) (rfl) dX5_isDamped_5 ?_
  have b1 := hfi s (by omega)
  refine lv_aload_n hx hb dX5_isDamped_6 rfl (lv_at hl 0 rfl) ?_
  refine va_get (D := E.1) (ci := 5) (v := .ref a5) (C := RX5) (T := TX5) (N := 7) hx hb hts iwX5_isDamped_X5_c_X5_isDamped hown hG.1 hP 0 rfl rfl 5 (by decide) (hts (.fieldLink RX5 31 "FrettedStrings$Strings" "start" "[I") (by decide +kernel)) (fun _ h9 => h9) rfl dX5_isDamped_7 ?_
  refine lv_iload_n hx hb dX5_isDamped_10 rfl (lv_at hl 1 rfl) ?_
  refine z_iald (j := s) (v := St s) hx hb hG hP 2 rfl (by omega) (by decide) (rfl) dX5_isDamped_11 ?_
  have b2 := hst s (by omega)
  refine z_icmp_le (a := Fi s) (b := St s) (tgt := 34) hx hb dX5_isDamped_12 (by decide) (by omega) (by omega) (fun c3 => ?_) (fun c3 => ?_)
  · -- 12 t
    refine lv_iconst (v := nI 0) hx hb dX5_isDamped_34 (by decide) ?_
    exact hret _ _ _ dX5_isDamped_35 (Or.inr ⟨rfl, by omega⟩)
  · -- 12 f
    refine lv_aload_n hx hb dX5_isDamped_15 rfl (lv_at hl 0 rfl) ?_
    refine lv_iload_n hx hb dX5_isDamped_16 rfl (lv_at hl 1 rfl) ?_
    refine lv_iload_n hx hb dX5_isDamped_17 rfl (lv_at hl 2 rfl) ?_
    refine lv_aload_n hx hb dX5_isDamped_18 rfl (lv_at hl 0 rfl) ?_
    refine va_get (D := E.1) (ci := 5) (v := .ref a2) (C := RX5) (T := TX5) (N := 7) hx hb hts iwX5_isDamped_X5_c_X5_isDamped hown hG.1 hP 0 rfl rfl 2 (by decide) (hts (.fieldLink RX5 22 "FrettedStrings$Strings" "finger" "[I") (by decide +kernel)) (fun _ h9 => h9) rfl dX5_isDamped_19 ?_
    refine lv_iload_n hx hb dX5_isDamped_22 rfl (lv_at hl 1 rfl) ?_
    refine z_iald (j := s) (v := Fi s) hx hb hG hP 1 rfl (by omega) (by decide) (rfl) dX5_isDamped_23 ?_
    have b4 := hfi s (by omega)
    have hPc := zP_sub (w := [(t, .inr (5, [.ref a0, .ref a1, .ref a2, .ref a3, .ref a4, .ref a5, .ref a6])), (a5, .inl (E.2.1, 4, .inl (fun zz => nI (St zz))))]) hP [0, 2] rfl
    refine z_rd (fun _ h => h) (va_runV (As := [.int (nI s), .int (nI n), .int (nI (Fi s))]) (rest := []) hF (c_X5_distanceFromNode l E t a0 a1 a2 a3 a4 a5 a6 s n (Fi s) St (by omega) (by omega) (by omega) (hst) (by omega) (by omega)) (cwV 3 hts gX5_isDamped_X5_distanceFromNode rfl rfl rfl (by decide +kernel) ⟨Nat.le_of_ble_eq_true rfl, Nat.le_of_ble_eq_true rfl⟩) (z_preRV (va_recv hG.1 hP (ci := 5) (q0 := 0) rfl rfl) hPc hG) rfl rfl hl.1 rfl (lv_room (Nat.le_of_ble_eq_true rfl)) dX5_isDamped_24 ⟨Nat.zero_le _, Nat.zero_le _⟩) (fun r5 hr5 => ?_)
    subst hr5
    have hdl := dist_le (n := n) (y := Fi s - St s) (ln := 2520 - St s)
    refine z_if_eq (a := dist n ((Fi s) - St s) (2520 - St s)) (tgt := 34) hx hb dX5_isDamped_27 (by decide) (by omega) (fun c6 => ?_) (fun c6 => ?_)
    · -- 27 t
      refine lv_iconst (v := nI 0) hx hb dX5_isDamped_34 (by decide) ?_
      exact hret _ _ _ dX5_isDamped_35 (Or.inr ⟨rfl, by omega⟩)
    · -- 27 f
      refine lv_iconst (v := nI 1) hx hb dX5_isDamped_30 (by decide) ?_
      refine lv_goto (tgt := 35) hx hb dX5_isDamped_31 (by decide) ?_
      exact hret _ _ _ dX5_isDamped_35 (Or.inl ⟨rfl, by omega⟩)
theorem iwX5_copyFrom_X5_c_X5_copyFrom : ∀ w ∈ wsX50, w ∈ wsX5_copyFrom := by decide +kernel
set_option maxHeartbeats 1000000 in
set_option maxRecDepth 100000 in
theorem c_X5_copyFrom (l : Launch) (E : zE) (t a0 a1 a2 a3 a4 a5 a6 t2 a02 a12 a22 a32 a42 a52 a62 : Nat) (T Pr Fi Pl So St Am T2 Pr2 Fi2 Pl2 So2 St2 Am2 : Nat → Nat)  : zV l yX5_copyFrom wsX5_copyFrom ({ frames := 1, cells := 0, slots := 0, locals := 40 }) E [.ref t, .ref t2] [(t, .inr (5, [.ref a0, .ref a1, .ref a2, .ref a3, .ref a4, .ref a5, .ref a6])), (a0, .inl (E.2.1, 4, .inl (fun zz => nI (T zz)))), (a1, .inl (E.2.1, 4, .inl (fun zz => nI (Pr zz)))), (a2, .inl (E.2.1, 4, .inl (fun zz => nI (Fi zz)))), (a3, .inl (E.2.1, 4, .inl (fun zz => nI (Pl zz)))), (a4, .inl (E.2.1, 4, .inl (fun zz => nI (So zz)))), (a5, .inl (E.2.1, 4, .inl (fun zz => nI (St zz)))), (a6, .inl (E.2.1, 48, .inl (fun zz => nI (Am zz)))), (t2, .inr (5, [.ref a02, .ref a12, .ref a22, .ref a32, .ref a42, .ref a52, .ref a62])), (a02, .inl (E.2.1, 4, .inl (fun zz => nI (T2 zz)))), (a12, .inl (E.2.1, 4, .inl (fun zz => nI (Pr2 zz)))), (a22, .inl (E.2.1, 4, .inl (fun zz => nI (Fi2 zz)))), (a32, .inl (E.2.1, 4, .inl (fun zz => nI (Pl2 zz)))), (a42, .inl (E.2.1, 4, .inl (fun zz => nI (So2 zz)))), (a52, .inl (E.2.1, 4, .inl (fun zz => nI (St2 zz)))), (a62, .inl (E.2.1, 48, .inl (fun zz => nI (Am2 zz))))] (fun w' => w' = [(t, .inr (5, [.ref a0, .ref a1, .ref a2, .ref a3, .ref a4, .ref a5, .ref a6])), (a0, .inl (E.2.1, 4, .inl (fun zz => nI (T2 zz)))), (a1, .inl (E.2.1, 4, .inl (fun zz => nI (Pr2 zz)))), (a2, .inl (E.2.1, 4, .inl (fun zz => nI (Fi2 zz)))), (a3, .inl (E.2.1, 4, .inl (fun zz => nI (Pl2 zz)))), (a4, .inl (E.2.1, 4, .inl (fun zz => nI (So2 zz)))), (a5, .inl (E.2.1, 4, .inl (fun zz => nI (St2 zz)))), (a6, .inl (E.2.1, 48, .inl (fun zz => nI (Am2 zz)))), (t2, .inr (5, [.ref a02, .ref a12, .ref a22, .ref a32, .ref a42, .ref a52, .ref a62])), (a02, .inl (E.2.1, 4, .inl (fun zz => nI (T2 zz)))), (a12, .inl (E.2.1, 4, .inl (fun zz => nI (Pr2 zz)))), (a22, .inl (E.2.1, 4, .inl (fun zz => nI (Fi2 zz)))), (a32, .inl (E.2.1, 4, .inl (fun zz => nI (Pl2 zz)))), (a42, .inl (E.2.1, 4, .inl (fun zz => nI (So2 zz)))), (a52, .inl (E.2.1, 4, .inl (fun zz => nI (St2 zz)))), (a62, .inl (E.2.1, 48, .inl (fun zz => nI (Am2 zz))))]) := by
  refine zV.start (own := RX5) rfl (by decide +kernel) rfl (Nat.le_of_ble_eq_true rfl) ?_
  intro pZ eZ sZ mZ argsZ belowZ methZ cZ QZ AZ hF hret HZ locsZ hP hD hS hG ls hl
  obtain ⟨hx, hb, hml, hown, hts⟩ := id hF
  have hl : lv_has ls 2 [(0, .ref t), (1, .ref t2)] := hl
  refine lv_aload_n hx hb dX5_copyFrom_0 rfl (lv_at hl 1 rfl) ?_
  refine va_get (D := E.1) (ci := 5) (v := .ref a02) (C := RX5) (T := TX5) (N := 7) hx hb hts iwX5_copyFrom_X5_c_X5_copyFrom hown hG.1 hP 8 rfl rfl 0 (by decide) (hts (.fieldLink RX5 13 "FrettedStrings$Strings" "tension" "[I") (by decide +kernel)) (fun _ h9 => h9) rfl dX5_copyFrom_1 ?_
  refine lv_iconst (v := nI 0) hx hb dX5_copyFrom_4 (by decide) ?_
  refine lv_aload_n hx hb dX5_copyFrom_5 rfl (lv_at hl 0 rfl) ?_
  refine va_get (D := E.1) (ci := 5) (v := .ref a0) (C := RX5) (T := TX5) (N := 7) hx hb hts iwX5_copyFrom_X5_c_X5_copyFrom hown hG.1 hP 0 rfl rfl 0 (by decide) (hts (.fieldLink RX5 13 "FrettedStrings$Strings" "tension" "[I") (by decide +kernel)) (fun _ h9 => h9) rfl dX5_copyFrom_6 ?_
  refine lv_iconst (v := nI 0) hx hb dX5_copyFrom_9 (by decide) ?_
  refine lv_iconst (v := nI 4) hx hb dX5_copyFrom_10 (by decide) ?_
  refine z_copy (n := 4) hx hb (hml.trans hl.1.symm) hown (hts (.methodLink RX5 37 arraycopyName) (by decide +kernel)) (hts (.native arraycopyName) (by decide +kernel)) (hts (.static arraycopyName) (by decide +kernel)) (hts (.initialized "java/lang/System") (by decide +kernel)) hG hP hD hS 9 1 rfl rfl (by decide) (Nat.le_of_ble_eq_true rfl) (by decide +kernel) dX5_copyFrom_11 (fun HZ locsZ hP hD hS => ?_)
  have hP : va_P E.1 vwCl [(t, .inr (5, [.ref a0, .ref a1, .ref a2, .ref a3, .ref a4, .ref a5, .ref a6])), (a0, .inl (E.2.1, 4, .inl (fun zz => nI (T2 zz)))), (a1, .inl (E.2.1, 4, .inl (fun zz => nI (Pr zz)))), (a2, .inl (E.2.1, 4, .inl (fun zz => nI (Fi zz)))), (a3, .inl (E.2.1, 4, .inl (fun zz => nI (Pl zz)))), (a4, .inl (E.2.1, 4, .inl (fun zz => nI (So zz)))), (a5, .inl (E.2.1, 4, .inl (fun zz => nI (St zz)))), (a6, .inl (E.2.1, 48, .inl (fun zz => nI (Am zz)))), (t2, .inr (5, [.ref a02, .ref a12, .ref a22, .ref a32, .ref a42, .ref a52, .ref a62])), (a02, .inl (E.2.1, 4, .inl (fun zz => nI (T2 zz)))), (a12, .inl (E.2.1, 4, .inl (fun zz => nI (Pr2 zz)))), (a22, .inl (E.2.1, 4, .inl (fun zz => nI (Fi2 zz)))), (a32, .inl (E.2.1, 4, .inl (fun zz => nI (Pl2 zz)))), (a42, .inl (E.2.1, 4, .inl (fun zz => nI (So2 zz)))), (a52, .inl (E.2.1, 4, .inl (fun zz => nI (St2 zz)))), (a62, .inl (E.2.1, 48, .inl (fun zz => nI (Am2 zz))))] _ := hP
  have hD : va_D AZ [(t, .inr (5, [.ref a0, .ref a1, .ref a2, .ref a3, .ref a4, .ref a5, .ref a6])), (a0, .inl (E.2.1, 4, .inl (fun zz => nI (T2 zz)))), (a1, .inl (E.2.1, 4, .inl (fun zz => nI (Pr zz)))), (a2, .inl (E.2.1, 4, .inl (fun zz => nI (Fi zz)))), (a3, .inl (E.2.1, 4, .inl (fun zz => nI (Pl zz)))), (a4, .inl (E.2.1, 4, .inl (fun zz => nI (So zz)))), (a5, .inl (E.2.1, 4, .inl (fun zz => nI (St zz)))), (a6, .inl (E.2.1, 48, .inl (fun zz => nI (Am zz)))), (t2, .inr (5, [.ref a02, .ref a12, .ref a22, .ref a32, .ref a42, .ref a52, .ref a62])), (a02, .inl (E.2.1, 4, .inl (fun zz => nI (T2 zz)))), (a12, .inl (E.2.1, 4, .inl (fun zz => nI (Pr2 zz)))), (a22, .inl (E.2.1, 4, .inl (fun zz => nI (Fi2 zz)))), (a32, .inl (E.2.1, 4, .inl (fun zz => nI (Pl2 zz)))), (a42, .inl (E.2.1, 4, .inl (fun zz => nI (So2 zz)))), (a52, .inl (E.2.1, 4, .inl (fun zz => nI (St2 zz)))), (a62, .inl (E.2.1, 48, .inl (fun zz => nI (Am2 zz))))] := hD
  refine lv_aload_n hx hb dX5_copyFrom_14 rfl (lv_at hl 1 rfl) ?_
  refine va_get (D := E.1) (ci := 5) (v := .ref a12) (C := RX5) (T := TX5) (N := 7) hx hb hts iwX5_copyFrom_X5_c_X5_copyFrom hown hG.1 hP 8 rfl rfl 1 (by decide) (hts (.fieldLink RX5 19 "FrettedStrings$Strings" "pressed" "[I") (by decide +kernel)) (fun _ h9 => h9) rfl dX5_copyFrom_15 ?_
  refine lv_iconst (v := nI 0) hx hb dX5_copyFrom_18 (by decide) ?_
  refine lv_aload_n hx hb dX5_copyFrom_19 rfl (lv_at hl 0 rfl) ?_
  refine va_get (D := E.1) (ci := 5) (v := .ref a1) (C := RX5) (T := TX5) (N := 7) hx hb hts iwX5_copyFrom_X5_c_X5_copyFrom hown hG.1 hP 0 rfl rfl 1 (by decide) (hts (.fieldLink RX5 19 "FrettedStrings$Strings" "pressed" "[I") (by decide +kernel)) (fun _ h9 => h9) rfl dX5_copyFrom_20 ?_
  refine lv_iconst (v := nI 0) hx hb dX5_copyFrom_23 (by decide) ?_
  refine lv_iconst (v := nI 4) hx hb dX5_copyFrom_24 (by decide) ?_
  refine z_copy (n := 4) hx hb (hml.trans hl.1.symm) hown (hts (.methodLink RX5 37 arraycopyName) (by decide +kernel)) (hts (.native arraycopyName) (by decide +kernel)) (hts (.static arraycopyName) (by decide +kernel)) (hts (.initialized "java/lang/System") (by decide +kernel)) hG hP hD hS 10 2 rfl rfl (by decide) (Nat.le_of_ble_eq_true rfl) (by decide +kernel) dX5_copyFrom_25 (fun HZ locsZ hP hD hS => ?_)
  have hP : va_P E.1 vwCl [(t, .inr (5, [.ref a0, .ref a1, .ref a2, .ref a3, .ref a4, .ref a5, .ref a6])), (a0, .inl (E.2.1, 4, .inl (fun zz => nI (T2 zz)))), (a1, .inl (E.2.1, 4, .inl (fun zz => nI (Pr2 zz)))), (a2, .inl (E.2.1, 4, .inl (fun zz => nI (Fi zz)))), (a3, .inl (E.2.1, 4, .inl (fun zz => nI (Pl zz)))), (a4, .inl (E.2.1, 4, .inl (fun zz => nI (So zz)))), (a5, .inl (E.2.1, 4, .inl (fun zz => nI (St zz)))), (a6, .inl (E.2.1, 48, .inl (fun zz => nI (Am zz)))), (t2, .inr (5, [.ref a02, .ref a12, .ref a22, .ref a32, .ref a42, .ref a52, .ref a62])), (a02, .inl (E.2.1, 4, .inl (fun zz => nI (T2 zz)))), (a12, .inl (E.2.1, 4, .inl (fun zz => nI (Pr2 zz)))), (a22, .inl (E.2.1, 4, .inl (fun zz => nI (Fi2 zz)))), (a32, .inl (E.2.1, 4, .inl (fun zz => nI (Pl2 zz)))), (a42, .inl (E.2.1, 4, .inl (fun zz => nI (So2 zz)))), (a52, .inl (E.2.1, 4, .inl (fun zz => nI (St2 zz)))), (a62, .inl (E.2.1, 48, .inl (fun zz => nI (Am2 zz))))] _ := hP
  have hD : va_D AZ [(t, .inr (5, [.ref a0, .ref a1, .ref a2, .ref a3, .ref a4, .ref a5, .ref a6])), (a0, .inl (E.2.1, 4, .inl (fun zz => nI (T2 zz)))), (a1, .inl (E.2.1, 4, .inl (fun zz => nI (Pr2 zz)))), (a2, .inl (E.2.1, 4, .inl (fun zz => nI (Fi zz)))), (a3, .inl (E.2.1, 4, .inl (fun zz => nI (Pl zz)))), (a4, .inl (E.2.1, 4, .inl (fun zz => nI (So zz)))), (a5, .inl (E.2.1, 4, .inl (fun zz => nI (St zz)))), (a6, .inl (E.2.1, 48, .inl (fun zz => nI (Am zz)))), (t2, .inr (5, [.ref a02, .ref a12, .ref a22, .ref a32, .ref a42, .ref a52, .ref a62])), (a02, .inl (E.2.1, 4, .inl (fun zz => nI (T2 zz)))), (a12, .inl (E.2.1, 4, .inl (fun zz => nI (Pr2 zz)))), (a22, .inl (E.2.1, 4, .inl (fun zz => nI (Fi2 zz)))), (a32, .inl (E.2.1, 4, .inl (fun zz => nI (Pl2 zz)))), (a42, .inl (E.2.1, 4, .inl (fun zz => nI (So2 zz)))), (a52, .inl (E.2.1, 4, .inl (fun zz => nI (St2 zz)))), (a62, .inl (E.2.1, 48, .inl (fun zz => nI (Am2 zz))))] := hD
  refine lv_aload_n hx hb dX5_copyFrom_28 rfl (lv_at hl 1 rfl) ?_
  refine va_get (D := E.1) (ci := 5) (v := .ref a22) (C := RX5) (T := TX5) (N := 7) hx hb hts iwX5_copyFrom_X5_c_X5_copyFrom hown hG.1 hP 8 rfl rfl 2 (by decide) (hts (.fieldLink RX5 22 "FrettedStrings$Strings" "finger" "[I") (by decide +kernel)) (fun _ h9 => h9) rfl dX5_copyFrom_29 ?_
  refine lv_iconst (v := nI 0) hx hb dX5_copyFrom_32 (by decide) ?_
  refine lv_aload_n hx hb dX5_copyFrom_33 rfl (lv_at hl 0 rfl) ?_
  refine va_get (D := E.1) (ci := 5) (v := .ref a2) (C := RX5) (T := TX5) (N := 7) hx hb hts iwX5_copyFrom_X5_c_X5_copyFrom hown hG.1 hP 0 rfl rfl 2 (by decide) (hts (.fieldLink RX5 22 "FrettedStrings$Strings" "finger" "[I") (by decide +kernel)) (fun _ h9 => h9) rfl dX5_copyFrom_34 ?_
  refine lv_iconst (v := nI 0) hx hb dX5_copyFrom_37 (by decide) ?_
  refine lv_iconst (v := nI 4) hx hb dX5_copyFrom_38 (by decide) ?_
  refine z_copy (n := 4) hx hb (hml.trans hl.1.symm) hown (hts (.methodLink RX5 37 arraycopyName) (by decide +kernel)) (hts (.native arraycopyName) (by decide +kernel)) (hts (.static arraycopyName) (by decide +kernel)) (hts (.initialized "java/lang/System") (by decide +kernel)) hG hP hD hS 11 3 rfl rfl (by decide) (Nat.le_of_ble_eq_true rfl) (by decide +kernel) dX5_copyFrom_39 (fun HZ locsZ hP hD hS => ?_)
  have hP : va_P E.1 vwCl [(t, .inr (5, [.ref a0, .ref a1, .ref a2, .ref a3, .ref a4, .ref a5, .ref a6])), (a0, .inl (E.2.1, 4, .inl (fun zz => nI (T2 zz)))), (a1, .inl (E.2.1, 4, .inl (fun zz => nI (Pr2 zz)))), (a2, .inl (E.2.1, 4, .inl (fun zz => nI (Fi2 zz)))), (a3, .inl (E.2.1, 4, .inl (fun zz => nI (Pl zz)))), (a4, .inl (E.2.1, 4, .inl (fun zz => nI (So zz)))), (a5, .inl (E.2.1, 4, .inl (fun zz => nI (St zz)))), (a6, .inl (E.2.1, 48, .inl (fun zz => nI (Am zz)))), (t2, .inr (5, [.ref a02, .ref a12, .ref a22, .ref a32, .ref a42, .ref a52, .ref a62])), (a02, .inl (E.2.1, 4, .inl (fun zz => nI (T2 zz)))), (a12, .inl (E.2.1, 4, .inl (fun zz => nI (Pr2 zz)))), (a22, .inl (E.2.1, 4, .inl (fun zz => nI (Fi2 zz)))), (a32, .inl (E.2.1, 4, .inl (fun zz => nI (Pl2 zz)))), (a42, .inl (E.2.1, 4, .inl (fun zz => nI (So2 zz)))), (a52, .inl (E.2.1, 4, .inl (fun zz => nI (St2 zz)))), (a62, .inl (E.2.1, 48, .inl (fun zz => nI (Am2 zz))))] _ := hP
  have hD : va_D AZ [(t, .inr (5, [.ref a0, .ref a1, .ref a2, .ref a3, .ref a4, .ref a5, .ref a6])), (a0, .inl (E.2.1, 4, .inl (fun zz => nI (T2 zz)))), (a1, .inl (E.2.1, 4, .inl (fun zz => nI (Pr2 zz)))), (a2, .inl (E.2.1, 4, .inl (fun zz => nI (Fi2 zz)))), (a3, .inl (E.2.1, 4, .inl (fun zz => nI (Pl zz)))), (a4, .inl (E.2.1, 4, .inl (fun zz => nI (So zz)))), (a5, .inl (E.2.1, 4, .inl (fun zz => nI (St zz)))), (a6, .inl (E.2.1, 48, .inl (fun zz => nI (Am zz)))), (t2, .inr (5, [.ref a02, .ref a12, .ref a22, .ref a32, .ref a42, .ref a52, .ref a62])), (a02, .inl (E.2.1, 4, .inl (fun zz => nI (T2 zz)))), (a12, .inl (E.2.1, 4, .inl (fun zz => nI (Pr2 zz)))), (a22, .inl (E.2.1, 4, .inl (fun zz => nI (Fi2 zz)))), (a32, .inl (E.2.1, 4, .inl (fun zz => nI (Pl2 zz)))), (a42, .inl (E.2.1, 4, .inl (fun zz => nI (So2 zz)))), (a52, .inl (E.2.1, 4, .inl (fun zz => nI (St2 zz)))), (a62, .inl (E.2.1, 48, .inl (fun zz => nI (Am2 zz))))] := hD
  refine lv_aload_n hx hb dX5_copyFrom_42 rfl (lv_at hl 1 rfl) ?_
  refine va_get (D := E.1) (ci := 5) (v := .ref a32) (C := RX5) (T := TX5) (N := 7) hx hb hts iwX5_copyFrom_X5_c_X5_copyFrom hown hG.1 hP 8 rfl rfl 3 (by decide) (hts (.fieldLink RX5 25 "FrettedStrings$Strings" "plucks" "[I") (by decide +kernel)) (fun _ h9 => h9) rfl dX5_copyFrom_43 ?_
  refine lv_iconst (v := nI 0) hx hb dX5_copyFrom_46 (by decide) ?_
  refine lv_aload_n hx hb dX5_copyFrom_47 rfl (lv_at hl 0 rfl) ?_
  refine va_get (D := E.1) (ci := 5) (v := .ref a3) (C := RX5) (T := TX5) (N := 7) hx hb hts iwX5_copyFrom_X5_c_X5_copyFrom hown hG.1 hP 0 rfl rfl 3 (by decide) (hts (.fieldLink RX5 25 "FrettedStrings$Strings" "plucks" "[I") (by decide +kernel)) (fun _ h9 => h9) rfl dX5_copyFrom_48 ?_
  refine lv_iconst (v := nI 0) hx hb dX5_copyFrom_51 (by decide) ?_
  refine lv_iconst (v := nI 4) hx hb dX5_copyFrom_52 (by decide) ?_
  refine z_copy (n := 4) hx hb (hml.trans hl.1.symm) hown (hts (.methodLink RX5 37 arraycopyName) (by decide +kernel)) (hts (.native arraycopyName) (by decide +kernel)) (hts (.static arraycopyName) (by decide +kernel)) (hts (.initialized "java/lang/System") (by decide +kernel)) hG hP hD hS 12 4 rfl rfl (by decide) (Nat.le_of_ble_eq_true rfl) (by decide +kernel) dX5_copyFrom_53 (fun HZ locsZ hP hD hS => ?_)
  have hP : va_P E.1 vwCl [(t, .inr (5, [.ref a0, .ref a1, .ref a2, .ref a3, .ref a4, .ref a5, .ref a6])), (a0, .inl (E.2.1, 4, .inl (fun zz => nI (T2 zz)))), (a1, .inl (E.2.1, 4, .inl (fun zz => nI (Pr2 zz)))), (a2, .inl (E.2.1, 4, .inl (fun zz => nI (Fi2 zz)))), (a3, .inl (E.2.1, 4, .inl (fun zz => nI (Pl2 zz)))), (a4, .inl (E.2.1, 4, .inl (fun zz => nI (So zz)))), (a5, .inl (E.2.1, 4, .inl (fun zz => nI (St zz)))), (a6, .inl (E.2.1, 48, .inl (fun zz => nI (Am zz)))), (t2, .inr (5, [.ref a02, .ref a12, .ref a22, .ref a32, .ref a42, .ref a52, .ref a62])), (a02, .inl (E.2.1, 4, .inl (fun zz => nI (T2 zz)))), (a12, .inl (E.2.1, 4, .inl (fun zz => nI (Pr2 zz)))), (a22, .inl (E.2.1, 4, .inl (fun zz => nI (Fi2 zz)))), (a32, .inl (E.2.1, 4, .inl (fun zz => nI (Pl2 zz)))), (a42, .inl (E.2.1, 4, .inl (fun zz => nI (So2 zz)))), (a52, .inl (E.2.1, 4, .inl (fun zz => nI (St2 zz)))), (a62, .inl (E.2.1, 48, .inl (fun zz => nI (Am2 zz))))] _ := hP
  have hD : va_D AZ [(t, .inr (5, [.ref a0, .ref a1, .ref a2, .ref a3, .ref a4, .ref a5, .ref a6])), (a0, .inl (E.2.1, 4, .inl (fun zz => nI (T2 zz)))), (a1, .inl (E.2.1, 4, .inl (fun zz => nI (Pr2 zz)))), (a2, .inl (E.2.1, 4, .inl (fun zz => nI (Fi2 zz)))), (a3, .inl (E.2.1, 4, .inl (fun zz => nI (Pl2 zz)))), (a4, .inl (E.2.1, 4, .inl (fun zz => nI (So zz)))), (a5, .inl (E.2.1, 4, .inl (fun zz => nI (St zz)))), (a6, .inl (E.2.1, 48, .inl (fun zz => nI (Am zz)))), (t2, .inr (5, [.ref a02, .ref a12, .ref a22, .ref a32, .ref a42, .ref a52, .ref a62])), (a02, .inl (E.2.1, 4, .inl (fun zz => nI (T2 zz)))), (a12, .inl (E.2.1, 4, .inl (fun zz => nI (Pr2 zz)))), (a22, .inl (E.2.1, 4, .inl (fun zz => nI (Fi2 zz)))), (a32, .inl (E.2.1, 4, .inl (fun zz => nI (Pl2 zz)))), (a42, .inl (E.2.1, 4, .inl (fun zz => nI (So2 zz)))), (a52, .inl (E.2.1, 4, .inl (fun zz => nI (St2 zz)))), (a62, .inl (E.2.1, 48, .inl (fun zz => nI (Am2 zz))))] := hD
  refine lv_aload_n hx hb dX5_copyFrom_56 rfl (lv_at hl 1 rfl) ?_
  refine va_get (D := E.1) (ci := 5) (v := .ref a42) (C := RX5) (T := TX5) (N := 7) hx hb hts iwX5_copyFrom_X5_c_X5_copyFrom hown hG.1 hP 8 rfl rfl 4 (by decide) (hts (.fieldLink RX5 28 "FrettedStrings$Strings" "source" "[I") (by decide +kernel)) (fun _ h9 => h9) rfl dX5_copyFrom_57 ?_
  refine lv_iconst (v := nI 0) hx hb dX5_copyFrom_60 (by decide) ?_
  refine lv_aload_n hx hb dX5_copyFrom_61 rfl (lv_at hl 0 rfl) ?_
  refine va_get (D := E.1) (ci := 5) (v := .ref a4) (C := RX5) (T := TX5) (N := 7) hx hb hts iwX5_copyFrom_X5_c_X5_copyFrom hown hG.1 hP 0 rfl rfl 4 (by decide) (hts (.fieldLink RX5 28 "FrettedStrings$Strings" "source" "[I") (by decide +kernel)) (fun _ h9 => h9) rfl dX5_copyFrom_62 ?_
  refine lv_iconst (v := nI 0) hx hb dX5_copyFrom_65 (by decide) ?_
  refine lv_iconst (v := nI 4) hx hb dX5_copyFrom_66 (by decide) ?_
  refine z_copy (n := 4) hx hb (hml.trans hl.1.symm) hown (hts (.methodLink RX5 37 arraycopyName) (by decide +kernel)) (hts (.native arraycopyName) (by decide +kernel)) (hts (.static arraycopyName) (by decide +kernel)) (hts (.initialized "java/lang/System") (by decide +kernel)) hG hP hD hS 13 5 rfl rfl (by decide) (Nat.le_of_ble_eq_true rfl) (by decide +kernel) dX5_copyFrom_67 (fun HZ locsZ hP hD hS => ?_)
  have hP : va_P E.1 vwCl [(t, .inr (5, [.ref a0, .ref a1, .ref a2, .ref a3, .ref a4, .ref a5, .ref a6])), (a0, .inl (E.2.1, 4, .inl (fun zz => nI (T2 zz)))), (a1, .inl (E.2.1, 4, .inl (fun zz => nI (Pr2 zz)))), (a2, .inl (E.2.1, 4, .inl (fun zz => nI (Fi2 zz)))), (a3, .inl (E.2.1, 4, .inl (fun zz => nI (Pl2 zz)))), (a4, .inl (E.2.1, 4, .inl (fun zz => nI (So2 zz)))), (a5, .inl (E.2.1, 4, .inl (fun zz => nI (St zz)))), (a6, .inl (E.2.1, 48, .inl (fun zz => nI (Am zz)))), (t2, .inr (5, [.ref a02, .ref a12, .ref a22, .ref a32, .ref a42, .ref a52, .ref a62])), (a02, .inl (E.2.1, 4, .inl (fun zz => nI (T2 zz)))), (a12, .inl (E.2.1, 4, .inl (fun zz => nI (Pr2 zz)))), (a22, .inl (E.2.1, 4, .inl (fun zz => nI (Fi2 zz)))), (a32, .inl (E.2.1, 4, .inl (fun zz => nI (Pl2 zz)))), (a42, .inl (E.2.1, 4, .inl (fun zz => nI (So2 zz)))), (a52, .inl (E.2.1, 4, .inl (fun zz => nI (St2 zz)))), (a62, .inl (E.2.1, 48, .inl (fun zz => nI (Am2 zz))))] _ := hP
  have hD : va_D AZ [(t, .inr (5, [.ref a0, .ref a1, .ref a2, .ref a3, .ref a4, .ref a5, .ref a6])), (a0, .inl (E.2.1, 4, .inl (fun zz => nI (T2 zz)))), (a1, .inl (E.2.1, 4, .inl (fun zz => nI (Pr2 zz)))), (a2, .inl (E.2.1, 4, .inl (fun zz => nI (Fi2 zz)))), (a3, .inl (E.2.1, 4, .inl (fun zz => nI (Pl2 zz)))), (a4, .inl (E.2.1, 4, .inl (fun zz => nI (So2 zz)))), (a5, .inl (E.2.1, 4, .inl (fun zz => nI (St zz)))), (a6, .inl (E.2.1, 48, .inl (fun zz => nI (Am zz)))), (t2, .inr (5, [.ref a02, .ref a12, .ref a22, .ref a32, .ref a42, .ref a52, .ref a62])), (a02, .inl (E.2.1, 4, .inl (fun zz => nI (T2 zz)))), (a12, .inl (E.2.1, 4, .inl (fun zz => nI (Pr2 zz)))), (a22, .inl (E.2.1, 4, .inl (fun zz => nI (Fi2 zz)))), (a32, .inl (E.2.1, 4, .inl (fun zz => nI (Pl2 zz)))), (a42, .inl (E.2.1, 4, .inl (fun zz => nI (So2 zz)))), (a52, .inl (E.2.1, 4, .inl (fun zz => nI (St2 zz)))), (a62, .inl (E.2.1, 48, .inl (fun zz => nI (Am2 zz))))] := hD
  refine lv_aload_n hx hb dX5_copyFrom_70 rfl (lv_at hl 1 rfl) ?_
  refine va_get (D := E.1) (ci := 5) (v := .ref a52) (C := RX5) (T := TX5) (N := 7) hx hb hts iwX5_copyFrom_X5_c_X5_copyFrom hown hG.1 hP 8 rfl rfl 5 (by decide) (hts (.fieldLink RX5 31 "FrettedStrings$Strings" "start" "[I") (by decide +kernel)) (fun _ h9 => h9) rfl dX5_copyFrom_71 ?_
  refine lv_iconst (v := nI 0) hx hb dX5_copyFrom_74 (by decide) ?_
  refine lv_aload_n hx hb dX5_copyFrom_75 rfl (lv_at hl 0 rfl) ?_
  refine va_get (D := E.1) (ci := 5) (v := .ref a5) (C := RX5) (T := TX5) (N := 7) hx hb hts iwX5_copyFrom_X5_c_X5_copyFrom hown hG.1 hP 0 rfl rfl 5 (by decide) (hts (.fieldLink RX5 31 "FrettedStrings$Strings" "start" "[I") (by decide +kernel)) (fun _ h9 => h9) rfl dX5_copyFrom_76 ?_
  refine lv_iconst (v := nI 0) hx hb dX5_copyFrom_79 (by decide) ?_
  refine lv_iconst (v := nI 4) hx hb dX5_copyFrom_80 (by decide) ?_
  refine z_copy (n := 4) hx hb (hml.trans hl.1.symm) hown (hts (.methodLink RX5 37 arraycopyName) (by decide +kernel)) (hts (.native arraycopyName) (by decide +kernel)) (hts (.static arraycopyName) (by decide +kernel)) (hts (.initialized "java/lang/System") (by decide +kernel)) hG hP hD hS 14 6 rfl rfl (by decide) (Nat.le_of_ble_eq_true rfl) (by decide +kernel) dX5_copyFrom_81 (fun HZ locsZ hP hD hS => ?_)
  have hP : va_P E.1 vwCl [(t, .inr (5, [.ref a0, .ref a1, .ref a2, .ref a3, .ref a4, .ref a5, .ref a6])), (a0, .inl (E.2.1, 4, .inl (fun zz => nI (T2 zz)))), (a1, .inl (E.2.1, 4, .inl (fun zz => nI (Pr2 zz)))), (a2, .inl (E.2.1, 4, .inl (fun zz => nI (Fi2 zz)))), (a3, .inl (E.2.1, 4, .inl (fun zz => nI (Pl2 zz)))), (a4, .inl (E.2.1, 4, .inl (fun zz => nI (So2 zz)))), (a5, .inl (E.2.1, 4, .inl (fun zz => nI (St2 zz)))), (a6, .inl (E.2.1, 48, .inl (fun zz => nI (Am zz)))), (t2, .inr (5, [.ref a02, .ref a12, .ref a22, .ref a32, .ref a42, .ref a52, .ref a62])), (a02, .inl (E.2.1, 4, .inl (fun zz => nI (T2 zz)))), (a12, .inl (E.2.1, 4, .inl (fun zz => nI (Pr2 zz)))), (a22, .inl (E.2.1, 4, .inl (fun zz => nI (Fi2 zz)))), (a32, .inl (E.2.1, 4, .inl (fun zz => nI (Pl2 zz)))), (a42, .inl (E.2.1, 4, .inl (fun zz => nI (So2 zz)))), (a52, .inl (E.2.1, 4, .inl (fun zz => nI (St2 zz)))), (a62, .inl (E.2.1, 48, .inl (fun zz => nI (Am2 zz))))] _ := hP
  have hD : va_D AZ [(t, .inr (5, [.ref a0, .ref a1, .ref a2, .ref a3, .ref a4, .ref a5, .ref a6])), (a0, .inl (E.2.1, 4, .inl (fun zz => nI (T2 zz)))), (a1, .inl (E.2.1, 4, .inl (fun zz => nI (Pr2 zz)))), (a2, .inl (E.2.1, 4, .inl (fun zz => nI (Fi2 zz)))), (a3, .inl (E.2.1, 4, .inl (fun zz => nI (Pl2 zz)))), (a4, .inl (E.2.1, 4, .inl (fun zz => nI (So2 zz)))), (a5, .inl (E.2.1, 4, .inl (fun zz => nI (St2 zz)))), (a6, .inl (E.2.1, 48, .inl (fun zz => nI (Am zz)))), (t2, .inr (5, [.ref a02, .ref a12, .ref a22, .ref a32, .ref a42, .ref a52, .ref a62])), (a02, .inl (E.2.1, 4, .inl (fun zz => nI (T2 zz)))), (a12, .inl (E.2.1, 4, .inl (fun zz => nI (Pr2 zz)))), (a22, .inl (E.2.1, 4, .inl (fun zz => nI (Fi2 zz)))), (a32, .inl (E.2.1, 4, .inl (fun zz => nI (Pl2 zz)))), (a42, .inl (E.2.1, 4, .inl (fun zz => nI (So2 zz)))), (a52, .inl (E.2.1, 4, .inl (fun zz => nI (St2 zz)))), (a62, .inl (E.2.1, 48, .inl (fun zz => nI (Am2 zz))))] := hD
  refine lv_aload_n hx hb dX5_copyFrom_84 rfl (lv_at hl 1 rfl) ?_
  refine va_get (D := E.1) (ci := 5) (v := .ref a62) (C := RX5) (T := TX5) (N := 7) hx hb hts iwX5_copyFrom_X5_c_X5_copyFrom hown hG.1 hP 8 rfl rfl 6 (by decide) (hts (.fieldLink RX5 34 "FrettedStrings$Strings" "amplitudes" "[I") (by decide +kernel)) (fun _ h9 => h9) rfl dX5_copyFrom_85 ?_
  refine lv_iconst (v := nI 0) hx hb dX5_copyFrom_88 (by decide) ?_
  refine lv_aload_n hx hb dX5_copyFrom_89 rfl (lv_at hl 0 rfl) ?_
  refine va_get (D := E.1) (ci := 5) (v := .ref a6) (C := RX5) (T := TX5) (N := 7) hx hb hts iwX5_copyFrom_X5_c_X5_copyFrom hown hG.1 hP 0 rfl rfl 6 (by decide) (hts (.fieldLink RX5 34 "FrettedStrings$Strings" "amplitudes" "[I") (by decide +kernel)) (fun _ h9 => h9) rfl dX5_copyFrom_90 ?_
  refine lv_iconst (v := nI 0) hx hb dX5_copyFrom_93 (by decide) ?_
  refine lv_bipush (v := nI 48) hx hb dX5_copyFrom_94 (by decide) ?_
  refine z_copy (n := 48) hx hb (hml.trans hl.1.symm) hown (hts (.methodLink RX5 37 arraycopyName) (by decide +kernel)) (hts (.native arraycopyName) (by decide +kernel)) (hts (.static arraycopyName) (by decide +kernel)) (hts (.initialized "java/lang/System") (by decide +kernel)) hG hP hD hS 15 7 rfl rfl (by decide) (Nat.le_of_ble_eq_true rfl) (by decide +kernel) dX5_copyFrom_96 (fun HZ locsZ hP hD hS => ?_)
  have hP : va_P E.1 vwCl [(t, .inr (5, [.ref a0, .ref a1, .ref a2, .ref a3, .ref a4, .ref a5, .ref a6])), (a0, .inl (E.2.1, 4, .inl (fun zz => nI (T2 zz)))), (a1, .inl (E.2.1, 4, .inl (fun zz => nI (Pr2 zz)))), (a2, .inl (E.2.1, 4, .inl (fun zz => nI (Fi2 zz)))), (a3, .inl (E.2.1, 4, .inl (fun zz => nI (Pl2 zz)))), (a4, .inl (E.2.1, 4, .inl (fun zz => nI (So2 zz)))), (a5, .inl (E.2.1, 4, .inl (fun zz => nI (St2 zz)))), (a6, .inl (E.2.1, 48, .inl (fun zz => nI (Am2 zz)))), (t2, .inr (5, [.ref a02, .ref a12, .ref a22, .ref a32, .ref a42, .ref a52, .ref a62])), (a02, .inl (E.2.1, 4, .inl (fun zz => nI (T2 zz)))), (a12, .inl (E.2.1, 4, .inl (fun zz => nI (Pr2 zz)))), (a22, .inl (E.2.1, 4, .inl (fun zz => nI (Fi2 zz)))), (a32, .inl (E.2.1, 4, .inl (fun zz => nI (Pl2 zz)))), (a42, .inl (E.2.1, 4, .inl (fun zz => nI (So2 zz)))), (a52, .inl (E.2.1, 4, .inl (fun zz => nI (St2 zz)))), (a62, .inl (E.2.1, 48, .inl (fun zz => nI (Am2 zz))))] _ := hP
  have hD : va_D AZ [(t, .inr (5, [.ref a0, .ref a1, .ref a2, .ref a3, .ref a4, .ref a5, .ref a6])), (a0, .inl (E.2.1, 4, .inl (fun zz => nI (T2 zz)))), (a1, .inl (E.2.1, 4, .inl (fun zz => nI (Pr2 zz)))), (a2, .inl (E.2.1, 4, .inl (fun zz => nI (Fi2 zz)))), (a3, .inl (E.2.1, 4, .inl (fun zz => nI (Pl2 zz)))), (a4, .inl (E.2.1, 4, .inl (fun zz => nI (So2 zz)))), (a5, .inl (E.2.1, 4, .inl (fun zz => nI (St2 zz)))), (a6, .inl (E.2.1, 48, .inl (fun zz => nI (Am2 zz)))), (t2, .inr (5, [.ref a02, .ref a12, .ref a22, .ref a32, .ref a42, .ref a52, .ref a62])), (a02, .inl (E.2.1, 4, .inl (fun zz => nI (T2 zz)))), (a12, .inl (E.2.1, 4, .inl (fun zz => nI (Pr2 zz)))), (a22, .inl (E.2.1, 4, .inl (fun zz => nI (Fi2 zz)))), (a32, .inl (E.2.1, 4, .inl (fun zz => nI (Pl2 zz)))), (a42, .inl (E.2.1, 4, .inl (fun zz => nI (So2 zz)))), (a52, .inl (E.2.1, 4, .inl (fun zz => nI (St2 zz)))), (a62, .inl (E.2.1, 48, .inl (fun zz => nI (Am2 zz))))] := hD
  exact hret _ _ _ _ _ hP hS dX5_copyFrom_99 rfl rfl
theorem iwX2_add_X2_c_X2_add : ∀ w ∈ wsX20, w ∈ wsX2_add := by decide +kernel
set_option maxHeartbeats 1000000 in
set_option maxRecDepth 100000 in
theorem c_X2_add (l : Launch) (E : zE) (u bo bt sz s f : Nat) (Or Ti : Nat → Nat) (hsz : sz ≤ 52) (hTi : ∀ i, i < 52 → Ti i ≤ 1000000000) (hs : s < 4) (hf : f ≤ 12) : zV l yX2_add wsX2_add ({ frames := 0, cells := 0, slots := 0, locals := 0 }) E [.ref u, .int (nI s), .int (nI f)] [(u, .inr (2, [.int (nI sz), .ref bo, .ref bt])), (bo, .inl (E.2.1, 52, .inl (fun zz => nI (Or zz)))), (bt, .inl (E.2.1, 52, .inl (fun zz => nI (Ti zz))))] (fun w' => w' = [(u, .inr (2, [.int (nI (nsz Ti sz (s * 13 + f))), .ref bo, .ref bt])), (bo, .inl (E.2.1, 52, .inl (fun zz => nI ((nOr Or Ti sz (s * 13 + f)) zz)))), (bt, .inl (E.2.1, 52, .inl (fun zz => nI ((va_up Ti (s * 13 + f) (Ti (s * 13 + f) + 1)) zz))))]) := by
  refine zV.start (own := RX2) rfl (by decide +kernel) rfl (Nat.le_of_ble_eq_true rfl) ?_
  intro pZ eZ sZ mZ argsZ belowZ methZ cZ QZ AZ hF hret HZ locsZ hP hD hS hG ls hl
  obtain ⟨hx, hb, hml, hown, hts⟩ := id hF
  have hl : lv_has ls 4 [(0, .ref u), (1, .int (nI s)), (2, .int (nI f))] := hl
  refine lv_iload_n hx hb dX2_add_0 rfl (lv_at hl 1 rfl) ?_
  refine lv_bipush (v := nI 13) hx hb dX2_add_1 (by decide) ?_
  refine z_imul (a := s) (b := 13) hx hb dX2_add_3 ?_
  refine lv_iload_n hx hb dX2_add_4 rfl (lv_at hl 2 rfl) ?_
  refine z_iadd (a := s * 13) (b := f) hx hb dX2_add_5 ?_
  refine lv_istore_n (lv' := [(3, .int (nI ((s * 13) + f))), (0, .ref u), (1, .int (nI s)), (2, .int (nI f))]) hx hb dX2_add_6 rfl hl (by decide) rfl (fun ls hl => ?_)
  refine lv_iload_n hx hb dX2_add_7 rfl (lv_at hl 0 rfl) ?_
  refine z_if_lt (tgt := 20) hx hb dX2_add_8 (by decide) (by omega) ?_
  refine lv_iload_n hx hb dX2_add_11 rfl (lv_at hl 0 rfl) ?_
  refine lv_aload_n hx hb dX2_add_12 rfl (lv_at hl 1 rfl) ?_
  refine va_get (D := E.1) (ci := 2) (v := .ref bt) (C := RX2) (T := TX2) (N := 3) hx hb hts iwX2_add_X2_c_X2_add hown hG.1 hP 0 rfl rfl 2 (by decide) (hts (.fieldLink RX2 15 "FrettedStrings$Notes" "times" "[I") (by decide +kernel)) (fun _ h9 => h9) rfl dX2_add_13 ?_
  refine va_alen (v := nI 52) hx hb hG.1 hP 2 0 rfl rfl rfl dX2_add_16 ?_
  refine z_icmp_lt (a := (s * 13) + f) (b := 52) (tgt := 21) hx hb dX2_add_17 (by decide) (by omega) (by omega) (fun c1 => ?_) (fun c1 => ?_)
  · -- 17 t
    refine lv_aload_n hx hb dX2_add_21 rfl (lv_at hl 1 rfl) ?_
    refine va_get (D := E.1) (ci := 2) (v := .ref bt) (C := RX2) (T := TX2) (N := 3) hx hb hts iwX2_add_X2_c_X2_add hown hG.1 hP 0 rfl rfl 2 (by decide) (hts (.fieldLink RX2 15 "FrettedStrings$Notes" "times" "[I") (by decide +kernel)) (fun _ h9 => h9) rfl dX2_add_22 ?_
    refine lv_iload_n hx hb dX2_add_25 rfl (lv_at hl 0 rfl) ?_
    refine z_iald (j := (s * 13) + f) (v := Ti ((s * 13) + f)) hx hb hG hP 2 rfl (by omega) (by decide) (rfl) dX2_add_26 ?_
    have b2 := hTi ((s * 13) + f) (by omega)
    refine z_if_ne (a := Ti ((s * 13) + f)) (tgt := 62) hx hb dX2_add_27 (by decide) (by omega) (fun c3 => ?_) (fun c3 => ?_)
    · -- 27 t
      refine lv_aload_n hx hb dX2_add_62 rfl (lv_at hl 1 rfl) ?_
      refine va_get (D := E.1) (ci := 2) (v := .ref bt) (C := RX2) (T := TX2) (N := 3) hx hb hts iwX2_add_X2_c_X2_add hown hG.1 hP 0 rfl rfl 2 (by decide) (hts (.fieldLink RX2 15 "FrettedStrings$Notes" "times" "[I") (by decide +kernel)) (fun _ h9 => h9) rfl dX2_add_63 ?_
      refine lv_iload_n hx hb dX2_add_66 rfl (lv_at hl 0 rfl) ?_
      refine lv_dup2_11 hx hb dX2_add_67 rfl rfl ?_
      refine z_iald (j := (s * 13) + f) (v := Ti ((s * 13) + f)) hx hb hG hP 2 rfl (by omega) (by decide) (rfl) dX2_add_68 ?_
      have b4 := hTi ((s * 13) + f) (by omega)
      refine lv_iconst (v := nI 1) hx hb dX2_add_69 (by decide) ?_
      refine z_iadd (a := Ti ((s * 13) + f)) (b := 1) hx hb dX2_add_70 ?_
      refine z_iast (j := (s * 13) + f) (v := (Ti ((s * 13) + f)) + 1) (g := va_up Ti ((s * 13) + f) ((Ti ((s * 13) + f)) + 1)) hx hb hG hP hD hS 2 rfl (by omega) (by decide) (rfl) dX2_add_71 (fun HZ locsZ hP hD hS => ?_)
      have hP : va_P E.1 vwCl [(u, .inr (2, [.int (nI sz), .ref bo, .ref bt])), (bo, .inl (E.2.1, 52, .inl (fun zz => nI (Or zz)))), (bt, .inl (E.2.1, 52, .inl (fun zz => nI ((va_up Ti ((s * 13) + f) ((Ti ((s * 13) + f)) + 1)) zz))))] _ := hP
      have hD : va_D AZ [(u, .inr (2, [.int (nI sz), .ref bo, .ref bt])), (bo, .inl (E.2.1, 52, .inl (fun zz => nI (Or zz)))), (bt, .inl (E.2.1, 52, .inl (fun zz => nI ((va_up Ti ((s * 13) + f) ((Ti ((s * 13) + f)) + 1)) zz))))] := hD
      have e5 : nI sz = nI (nsz Ti sz (s * 13 + f)) := by first | rfl | (first | (unfold nsz; first | rw [if_pos ⟨by assumption, by assumption⟩] | rw [if_neg (by omega)]) | (unfold nOr; first | rw [if_pos ⟨by assumption, by assumption⟩] | rw [if_neg (by omega)]))
      have hP : va_P E.1 vwCl [(u, .inr (2, [.int (nI (nsz Ti sz (s * 13 + f))), .ref bo, .ref bt])), (bo, .inl (E.2.1, 52, .inl (fun zz => nI (Or zz)))), (bt, .inl (E.2.1, 52, .inl (fun zz => nI ((va_up Ti ((s * 13) + f) ((Ti ((s * 13) + f)) + 1)) zz))))] HZ := Eq.subst (motive := fun XX : Int32 => va_P E.1 vwCl [(u, .inr (2, [.int XX, .ref bo, .ref bt])), (bo, .inl (E.2.1, 52, .inl (fun zz => nI (Or zz)))), (bt, .inl (E.2.1, 52, .inl (fun zz => nI ((va_up Ti ((s * 13) + f) ((Ti ((s * 13) + f)) + 1)) zz))))] HZ) e5 hP
      have hD : va_D AZ [(u, .inr (2, [.int (nI (nsz Ti sz (s * 13 + f))), .ref bo, .ref bt])), (bo, .inl (E.2.1, 52, .inl (fun zz => nI (Or zz)))), (bt, .inl (E.2.1, 52, .inl (fun zz => nI ((va_up Ti ((s * 13) + f) ((Ti ((s * 13) + f)) + 1)) zz))))] := Eq.subst (motive := fun XX : Int32 => va_D AZ [(u, .inr (2, [.int XX, .ref bo, .ref bt])), (bo, .inl (E.2.1, 52, .inl (fun zz => nI (Or zz)))), (bt, .inl (E.2.1, 52, .inl (fun zz => nI ((va_up Ti ((s * 13) + f) ((Ti ((s * 13) + f)) + 1)) zz))))]) e5 hD
      have e6 : (Or : Nat → Nat) = nOr Or Ti sz (s * 13 + f) := by first | rfl | (first | (unfold nsz; first | rw [if_pos ⟨by assumption, by assumption⟩] | rw [if_neg (by omega)]) | (unfold nOr; first | rw [if_pos ⟨by assumption, by assumption⟩] | rw [if_neg (by omega)]))
      have hP : va_P E.1 vwCl [(u, .inr (2, [.int (nI (nsz Ti sz (s * 13 + f))), .ref bo, .ref bt])), (bo, .inl (E.2.1, 52, .inl (fun zz => nI ((nOr Or Ti sz (s * 13 + f)) zz)))), (bt, .inl (E.2.1, 52, .inl (fun zz => nI ((va_up Ti ((s * 13) + f) ((Ti ((s * 13) + f)) + 1)) zz))))] HZ := Eq.subst (motive := fun XX : Nat → Nat => va_P E.1 vwCl [(u, .inr (2, [.int (nI (nsz Ti sz (s * 13 + f))), .ref bo, .ref bt])), (bo, .inl (E.2.1, 52, .inl (fun zz => nI (XX zz)))), (bt, .inl (E.2.1, 52, .inl (fun zz => nI ((va_up Ti ((s * 13) + f) ((Ti ((s * 13) + f)) + 1)) zz))))] HZ) e6 hP
      have hD : va_D AZ [(u, .inr (2, [.int (nI (nsz Ti sz (s * 13 + f))), .ref bo, .ref bt])), (bo, .inl (E.2.1, 52, .inl (fun zz => nI ((nOr Or Ti sz (s * 13 + f)) zz)))), (bt, .inl (E.2.1, 52, .inl (fun zz => nI ((va_up Ti ((s * 13) + f) ((Ti ((s * 13) + f)) + 1)) zz))))] := Eq.subst (motive := fun XX : Nat → Nat => va_D AZ [(u, .inr (2, [.int (nI (nsz Ti sz (s * 13 + f))), .ref bo, .ref bt])), (bo, .inl (E.2.1, 52, .inl (fun zz => nI (XX zz)))), (bt, .inl (E.2.1, 52, .inl (fun zz => nI ((va_up Ti ((s * 13) + f) ((Ti ((s * 13) + f)) + 1)) zz))))]) e6 hD
      exact hret _ _ _ _ _ hP hS dX2_add_72 rfl rfl
    · -- 27 f
      refine lv_aload_n hx hb dX2_add_30 rfl (lv_at hl 1 rfl) ?_
      refine va_get (D := E.1) (ci := 2) (v := .int (nI sz)) (C := RX2) (T := TX2) (N := 3) hx hb hts iwX2_add_X2_c_X2_add hown hG.1 hP 0 rfl rfl 0 (by decide) (hts (.fieldLink RX2 18 "FrettedStrings$Notes" "size" "I") (by decide +kernel)) (fun _ h9 => h9) rfl dX2_add_31 ?_
      refine lv_aload_n hx hb dX2_add_34 rfl (lv_at hl 1 rfl) ?_
      refine va_get (D := E.1) (ci := 2) (v := .ref bo) (C := RX2) (T := TX2) (N := 3) hx hb hts iwX2_add_X2_c_X2_add hown hG.1 hP 0 rfl rfl 1 (by decide) (hts (.fieldLink RX2 11 "FrettedStrings$Notes" "order" "[I") (by decide +kernel)) (fun _ h9 => h9) rfl dX2_add_35 ?_
      refine va_alen (v := nI 52) hx hb hG.1 hP 1 0 rfl rfl rfl dX2_add_38 ?_
      refine z_icmp_ge (a := sz) (b := 52) (tgt := 62) hx hb dX2_add_39 (by decide) (by omega) (by omega) (fun c8 => ?_) (fun c8 => ?_)
      · -- 39 t
        refine lv_aload_n hx hb dX2_add_62 rfl (lv_at hl 1 rfl) ?_
        refine va_get (D := E.1) (ci := 2) (v := .ref bt) (C := RX2) (T := TX2) (N := 3) hx hb hts iwX2_add_X2_c_X2_add hown hG.1 hP 0 rfl rfl 2 (by decide) (hts (.fieldLink RX2 15 "FrettedStrings$Notes" "times" "[I") (by decide +kernel)) (fun _ h9 => h9) rfl dX2_add_63 ?_
        refine lv_iload_n hx hb dX2_add_66 rfl (lv_at hl 0 rfl) ?_
        refine lv_dup2_11 hx hb dX2_add_67 rfl rfl ?_
        refine z_iald (j := (s * 13) + f) (v := Ti ((s * 13) + f)) hx hb hG hP 2 rfl (by omega) (by decide) (rfl) dX2_add_68 ?_
        have b9 := hTi ((s * 13) + f) (by omega)
        refine lv_iconst (v := nI 1) hx hb dX2_add_69 (by decide) ?_
        refine z_iadd (a := Ti ((s * 13) + f)) (b := 1) hx hb dX2_add_70 ?_
        refine z_iast (j := (s * 13) + f) (v := (Ti ((s * 13) + f)) + 1) (g := va_up Ti ((s * 13) + f) ((Ti ((s * 13) + f)) + 1)) hx hb hG hP hD hS 2 rfl (by omega) (by decide) (rfl) dX2_add_71 (fun HZ locsZ hP hD hS => ?_)
        have hP : va_P E.1 vwCl [(u, .inr (2, [.int (nI sz), .ref bo, .ref bt])), (bo, .inl (E.2.1, 52, .inl (fun zz => nI (Or zz)))), (bt, .inl (E.2.1, 52, .inl (fun zz => nI ((va_up Ti ((s * 13) + f) ((Ti ((s * 13) + f)) + 1)) zz))))] _ := hP
        have hD : va_D AZ [(u, .inr (2, [.int (nI sz), .ref bo, .ref bt])), (bo, .inl (E.2.1, 52, .inl (fun zz => nI (Or zz)))), (bt, .inl (E.2.1, 52, .inl (fun zz => nI ((va_up Ti ((s * 13) + f) ((Ti ((s * 13) + f)) + 1)) zz))))] := hD
        have e10 : nI sz = nI (nsz Ti sz (s * 13 + f)) := by first | rfl | (first | (unfold nsz; first | rw [if_pos ⟨by assumption, by assumption⟩] | rw [if_neg (by omega)]) | (unfold nOr; first | rw [if_pos ⟨by assumption, by assumption⟩] | rw [if_neg (by omega)]))
        have hP : va_P E.1 vwCl [(u, .inr (2, [.int (nI (nsz Ti sz (s * 13 + f))), .ref bo, .ref bt])), (bo, .inl (E.2.1, 52, .inl (fun zz => nI (Or zz)))), (bt, .inl (E.2.1, 52, .inl (fun zz => nI ((va_up Ti ((s * 13) + f) ((Ti ((s * 13) + f)) + 1)) zz))))] HZ := Eq.subst (motive := fun XX : Int32 => va_P E.1 vwCl [(u, .inr (2, [.int XX, .ref bo, .ref bt])), (bo, .inl (E.2.1, 52, .inl (fun zz => nI (Or zz)))), (bt, .inl (E.2.1, 52, .inl (fun zz => nI ((va_up Ti ((s * 13) + f) ((Ti ((s * 13) + f)) + 1)) zz))))] HZ) e10 hP
        have hD : va_D AZ [(u, .inr (2, [.int (nI (nsz Ti sz (s * 13 + f))), .ref bo, .ref bt])), (bo, .inl (E.2.1, 52, .inl (fun zz => nI (Or zz)))), (bt, .inl (E.2.1, 52, .inl (fun zz => nI ((va_up Ti ((s * 13) + f) ((Ti ((s * 13) + f)) + 1)) zz))))] := Eq.subst (motive := fun XX : Int32 => va_D AZ [(u, .inr (2, [.int XX, .ref bo, .ref bt])), (bo, .inl (E.2.1, 52, .inl (fun zz => nI (Or zz)))), (bt, .inl (E.2.1, 52, .inl (fun zz => nI ((va_up Ti ((s * 13) + f) ((Ti ((s * 13) + f)) + 1)) zz))))]) e10 hD
        have e11 : (Or : Nat → Nat) = nOr Or Ti sz (s * 13 + f) := by first | rfl | (first | (unfold nsz; first | rw [if_pos ⟨by assumption, by assumption⟩] | rw [if_neg (by omega)]) | (unfold nOr; first | rw [if_pos ⟨by assumption, by assumption⟩] | rw [if_neg (by omega)]))
        have hP : va_P E.1 vwCl [(u, .inr (2, [.int (nI (nsz Ti sz (s * 13 + f))), .ref bo, .ref bt])), (bo, .inl (E.2.1, 52, .inl (fun zz => nI ((nOr Or Ti sz (s * 13 + f)) zz)))), (bt, .inl (E.2.1, 52, .inl (fun zz => nI ((va_up Ti ((s * 13) + f) ((Ti ((s * 13) + f)) + 1)) zz))))] HZ := Eq.subst (motive := fun XX : Nat → Nat => va_P E.1 vwCl [(u, .inr (2, [.int (nI (nsz Ti sz (s * 13 + f))), .ref bo, .ref bt])), (bo, .inl (E.2.1, 52, .inl (fun zz => nI (XX zz)))), (bt, .inl (E.2.1, 52, .inl (fun zz => nI ((va_up Ti ((s * 13) + f) ((Ti ((s * 13) + f)) + 1)) zz))))] HZ) e11 hP
        have hD : va_D AZ [(u, .inr (2, [.int (nI (nsz Ti sz (s * 13 + f))), .ref bo, .ref bt])), (bo, .inl (E.2.1, 52, .inl (fun zz => nI ((nOr Or Ti sz (s * 13 + f)) zz)))), (bt, .inl (E.2.1, 52, .inl (fun zz => nI ((va_up Ti ((s * 13) + f) ((Ti ((s * 13) + f)) + 1)) zz))))] := Eq.subst (motive := fun XX : Nat → Nat => va_D AZ [(u, .inr (2, [.int (nI (nsz Ti sz (s * 13 + f))), .ref bo, .ref bt])), (bo, .inl (E.2.1, 52, .inl (fun zz => nI (XX zz)))), (bt, .inl (E.2.1, 52, .inl (fun zz => nI ((va_up Ti ((s * 13) + f) ((Ti ((s * 13) + f)) + 1)) zz))))]) e11 hD
        exact hret _ _ _ _ _ hP hS dX2_add_72 rfl rfl
      · -- 39 f
        refine lv_aload_n hx hb dX2_add_42 rfl (lv_at hl 1 rfl) ?_
        refine va_get (D := E.1) (ci := 2) (v := .ref bo) (C := RX2) (T := TX2) (N := 3) hx hb hts iwX2_add_X2_c_X2_add hown hG.1 hP 0 rfl rfl 1 (by decide) (hts (.fieldLink RX2 11 "FrettedStrings$Notes" "order" "[I") (by decide +kernel)) (fun _ h9 => h9) rfl dX2_add_43 ?_
        refine lv_aload_n hx hb dX2_add_46 rfl (lv_at hl 1 rfl) ?_
        refine va_get (D := E.1) (ci := 2) (v := .int (nI sz)) (C := RX2) (T := TX2) (N := 3) hx hb hts iwX2_add_X2_c_X2_add hown hG.1 hP 0 rfl rfl 0 (by decide) (hts (.fieldLink RX2 18 "FrettedStrings$Notes" "size" "I") (by decide +kernel)) (fun _ h9 => h9) rfl dX2_add_47 ?_
        refine lv_iload_n hx hb dX2_add_50 rfl (lv_at hl 0 rfl) ?_
        refine z_iast (j := sz) (v := (s * 13) + f) (g := va_up Or sz ((s * 13) + f)) hx hb hG hP hD hS 1 rfl (by omega) (by decide) (rfl) dX2_add_51 (fun HZ locsZ hP hD hS => ?_)
        have hP : va_P E.1 vwCl [(u, .inr (2, [.int (nI sz), .ref bo, .ref bt])), (bo, .inl (E.2.1, 52, .inl (fun zz => nI ((va_up Or sz ((s * 13) + f)) zz)))), (bt, .inl (E.2.1, 52, .inl (fun zz => nI (Ti zz))))] _ := hP
        have hD : va_D AZ [(u, .inr (2, [.int (nI sz), .ref bo, .ref bt])), (bo, .inl (E.2.1, 52, .inl (fun zz => nI ((va_up Or sz ((s * 13) + f)) zz)))), (bt, .inl (E.2.1, 52, .inl (fun zz => nI (Ti zz))))] := hD
        refine lv_aload_n hx hb dX2_add_52 rfl (lv_at hl 1 rfl) ?_
        refine lv_dup hx hb dX2_add_53 rfl ?_
        refine va_get (D := E.1) (ci := 2) (v := .int (nI sz)) (C := RX2) (T := TX2) (N := 3) hx hb hts iwX2_add_X2_c_X2_add hown hG.1 hP 0 rfl rfl 0 (by decide) (hts (.fieldLink RX2 18 "FrettedStrings$Notes" "size" "I") (by decide +kernel)) (fun _ h9 => h9) rfl dX2_add_54 ?_
        refine lv_iconst (v := nI 1) hx hb dX2_add_57 (by decide) ?_
        refine z_iadd (a := sz) (b := 1) hx hb dX2_add_58 ?_
        refine va_put (D := E.1) (ci := 2) (v := .int (nI (sz + 1))) (ty := .int) (C := RX2) (T := TX2) (N := 3) hx hb hts iwX2_add_X2_c_X2_add tyX2 tyX2_ok nmX2 hown hG.1 hP hD hS 0 rfl rfl 0 (by decide) (hts (.fieldLink RX2 18 "FrettedStrings$Notes" "size" "I") (by decide +kernel)) (fun _ h9 => h9) rfl (by decide +kernel) rfl rfl (Nat.le_of_ble_eq_true rfl) dX2_add_59 (fun HZ locsZ hP hD hS => ?_)
        have hP : va_P E.1 vwCl [(u, .inr (2, [.int (nI (sz + 1)), .ref bo, .ref bt])), (bo, .inl (E.2.1, 52, .inl (fun zz => nI ((va_up Or sz ((s * 13) + f)) zz)))), (bt, .inl (E.2.1, 52, .inl (fun zz => nI (Ti zz))))] _ := hP
        have hD : va_D AZ [(u, .inr (2, [.int (nI (sz + 1)), .ref bo, .ref bt])), (bo, .inl (E.2.1, 52, .inl (fun zz => nI ((va_up Or sz ((s * 13) + f)) zz)))), (bt, .inl (E.2.1, 52, .inl (fun zz => nI (Ti zz))))] := hD
        refine lv_aload_n hx hb dX2_add_62 rfl (lv_at hl 1 rfl) ?_
        refine va_get (D := E.1) (ci := 2) (v := .ref bt) (C := RX2) (T := TX2) (N := 3) hx hb hts iwX2_add_X2_c_X2_add hown hG.1 hP 0 rfl rfl 2 (by decide) (hts (.fieldLink RX2 15 "FrettedStrings$Notes" "times" "[I") (by decide +kernel)) (fun _ h9 => h9) rfl dX2_add_63 ?_
        refine lv_iload_n hx hb dX2_add_66 rfl (lv_at hl 0 rfl) ?_
        refine lv_dup2_11 hx hb dX2_add_67 rfl rfl ?_
        refine z_iald (j := (s * 13) + f) (v := Ti ((s * 13) + f)) hx hb hG hP 2 rfl (by omega) (by decide) (rfl) dX2_add_68 ?_
        have b13 := hTi ((s * 13) + f) (by omega)
        refine lv_iconst (v := nI 1) hx hb dX2_add_69 (by decide) ?_
        refine z_iadd (a := Ti ((s * 13) + f)) (b := 1) hx hb dX2_add_70 ?_
        refine z_iast (j := (s * 13) + f) (v := (Ti ((s * 13) + f)) + 1) (g := va_up Ti ((s * 13) + f) ((Ti ((s * 13) + f)) + 1)) hx hb hG hP hD hS 2 rfl (by omega) (by decide) (rfl) dX2_add_71 (fun HZ locsZ hP hD hS => ?_)
        have hP : va_P E.1 vwCl [(u, .inr (2, [.int (nI (sz + 1)), .ref bo, .ref bt])), (bo, .inl (E.2.1, 52, .inl (fun zz => nI ((va_up Or sz ((s * 13) + f)) zz)))), (bt, .inl (E.2.1, 52, .inl (fun zz => nI ((va_up Ti ((s * 13) + f) ((Ti ((s * 13) + f)) + 1)) zz))))] _ := hP
        have hD : va_D AZ [(u, .inr (2, [.int (nI (sz + 1)), .ref bo, .ref bt])), (bo, .inl (E.2.1, 52, .inl (fun zz => nI ((va_up Or sz ((s * 13) + f)) zz)))), (bt, .inl (E.2.1, 52, .inl (fun zz => nI ((va_up Ti ((s * 13) + f) ((Ti ((s * 13) + f)) + 1)) zz))))] := hD
        have e14 : nI (sz + 1) = nI (nsz Ti sz (s * 13 + f)) := by first | rfl | (first | (unfold nsz; first | rw [if_pos ⟨by assumption, by assumption⟩] | rw [if_neg (by omega)]) | (unfold nOr; first | rw [if_pos ⟨by assumption, by assumption⟩] | rw [if_neg (by omega)]))
        have hP : va_P E.1 vwCl [(u, .inr (2, [.int (nI (nsz Ti sz (s * 13 + f))), .ref bo, .ref bt])), (bo, .inl (E.2.1, 52, .inl (fun zz => nI ((va_up Or sz ((s * 13) + f)) zz)))), (bt, .inl (E.2.1, 52, .inl (fun zz => nI ((va_up Ti ((s * 13) + f) ((Ti ((s * 13) + f)) + 1)) zz))))] HZ := Eq.subst (motive := fun XX : Int32 => va_P E.1 vwCl [(u, .inr (2, [.int XX, .ref bo, .ref bt])), (bo, .inl (E.2.1, 52, .inl (fun zz => nI ((va_up Or sz ((s * 13) + f)) zz)))), (bt, .inl (E.2.1, 52, .inl (fun zz => nI ((va_up Ti ((s * 13) + f) ((Ti ((s * 13) + f)) + 1)) zz))))] HZ) e14 hP
        have hD : va_D AZ [(u, .inr (2, [.int (nI (nsz Ti sz (s * 13 + f))), .ref bo, .ref bt])), (bo, .inl (E.2.1, 52, .inl (fun zz => nI ((va_up Or sz ((s * 13) + f)) zz)))), (bt, .inl (E.2.1, 52, .inl (fun zz => nI ((va_up Ti ((s * 13) + f) ((Ti ((s * 13) + f)) + 1)) zz))))] := Eq.subst (motive := fun XX : Int32 => va_D AZ [(u, .inr (2, [.int XX, .ref bo, .ref bt])), (bo, .inl (E.2.1, 52, .inl (fun zz => nI ((va_up Or sz ((s * 13) + f)) zz)))), (bt, .inl (E.2.1, 52, .inl (fun zz => nI ((va_up Ti ((s * 13) + f) ((Ti ((s * 13) + f)) + 1)) zz))))]) e14 hD
        have e15 : (va_up Or sz ((s * 13) + f) : Nat → Nat) = nOr Or Ti sz (s * 13 + f) := by first | rfl | (first | (unfold nsz; first | rw [if_pos ⟨by assumption, by assumption⟩] | rw [if_neg (by omega)]) | (unfold nOr; first | rw [if_pos ⟨by assumption, by assumption⟩] | rw [if_neg (by omega)]))
        have hP : va_P E.1 vwCl [(u, .inr (2, [.int (nI (nsz Ti sz (s * 13 + f))), .ref bo, .ref bt])), (bo, .inl (E.2.1, 52, .inl (fun zz => nI ((nOr Or Ti sz (s * 13 + f)) zz)))), (bt, .inl (E.2.1, 52, .inl (fun zz => nI ((va_up Ti ((s * 13) + f) ((Ti ((s * 13) + f)) + 1)) zz))))] HZ := Eq.subst (motive := fun XX : Nat → Nat => va_P E.1 vwCl [(u, .inr (2, [.int (nI (nsz Ti sz (s * 13 + f))), .ref bo, .ref bt])), (bo, .inl (E.2.1, 52, .inl (fun zz => nI (XX zz)))), (bt, .inl (E.2.1, 52, .inl (fun zz => nI ((va_up Ti ((s * 13) + f) ((Ti ((s * 13) + f)) + 1)) zz))))] HZ) e15 hP
        have hD : va_D AZ [(u, .inr (2, [.int (nI (nsz Ti sz (s * 13 + f))), .ref bo, .ref bt])), (bo, .inl (E.2.1, 52, .inl (fun zz => nI ((nOr Or Ti sz (s * 13 + f)) zz)))), (bt, .inl (E.2.1, 52, .inl (fun zz => nI ((va_up Ti ((s * 13) + f) ((Ti ((s * 13) + f)) + 1)) zz))))] := Eq.subst (motive := fun XX : Nat → Nat => va_D AZ [(u, .inr (2, [.int (nI (nsz Ti sz (s * 13 + f))), .ref bo, .ref bt])), (bo, .inl (E.2.1, 52, .inl (fun zz => nI (XX zz)))), (bt, .inl (E.2.1, 52, .inl (fun zz => nI ((va_up Ti ((s * 13) + f) ((Ti ((s * 13) + f)) + 1)) zz))))]) e15 hD
        exact hret _ _ _ _ _ hP hS dX2_add_72 rfl rfl
  · -- 17 f
    omega
theorem iwX2_noteAt_X2_c_X2_noteAt : ∀ w ∈ wsX20, w ∈ wsX2_noteAt := by decide +kernel
set_option maxHeartbeats 1000000 in
set_option maxRecDepth 100000 in
theorem c_X2_noteAt (l : Launch) (E : zE) (u bo bt sz i : Nat) (Or : Nat → Nat) (hsz : sz ≤ 52) (hi : i < sz) : zR l yX2_noteAt wsX2_noteAt ({ frames := 0, cells := 0, slots := 0, locals := 0 }) E [.ref u, .int (nI i)] [(u, .inr (2, [.int (nI sz), .ref bo, .ref bt])), (bo, .inl (E.2.1, 52, .inl (fun zz => nI (Or zz))))] (fun r => r = nI (Or i)) := by
  refine zR.start (own := RX2) rfl (by decide +kernel) rfl (Nat.le_of_ble_eq_true rfl) (fun _ _ => rfl) ?_
  intro pZ eZ sZ mZ argsZ belowZ methZ cZ QZ hF hret hP hG ls hl
  obtain ⟨hx, hb, hml, hown, hts⟩ := id hF
  have hl : lv_has ls 2 [(0, .ref u), (1, .int (nI i))] := hl
  refine lv_iload_n hx hb dX2_noteAt_0 rfl (lv_at hl 1 rfl) ?_
  refine z_if_lt (tgt := 30) hx hb dX2_noteAt_1 (by decide) (by omega) ?_
  refine lv_iload_n hx hb dX2_noteAt_4 rfl (lv_at hl 1 rfl) ?_
  refine lv_aload_n hx hb dX2_noteAt_5 rfl (lv_at hl 0 rfl) ?_
  refine va_get (D := E.1) (ci := 2) (v := .int (nI sz)) (C := RX2) (T := TX2) (N := 3) hx hb hts iwX2_noteAt_X2_c_X2_noteAt hown hG.1 hP 0 rfl rfl 0 (by decide) (hts (.fieldLink RX2 18 "FrettedStrings$Notes" "size" "I") (by decide +kernel)) (fun _ h9 => h9) rfl dX2_noteAt_6 ?_
  refine z_icmp_ge (a := i) (b := sz) (tgt := 30) hx hb dX2_noteAt_9 (by decide) (by omega) (by omega) (fun c1 => ?_) (fun c1 => ?_)
  · -- 9 t
    omega
  · -- 9 f
    refine lv_iload_n hx hb dX2_noteAt_12 rfl (lv_at hl 1 rfl) ?_
    refine lv_aload_n hx hb dX2_noteAt_13 rfl (lv_at hl 0 rfl) ?_
    refine va_get (D := E.1) (ci := 2) (v := .ref bo) (C := RX2) (T := TX2) (N := 3) hx hb hts iwX2_noteAt_X2_c_X2_noteAt hown hG.1 hP 0 rfl rfl 1 (by decide) (hts (.fieldLink RX2 11 "FrettedStrings$Notes" "order" "[I") (by decide +kernel)) (fun _ h9 => h9) rfl dX2_noteAt_14 ?_
    refine va_alen (v := nI 52) hx hb hG.1 hP 1 0 rfl rfl rfl dX2_noteAt_17 ?_
    refine z_icmp_ge (a := i) (b := 52) (tgt := 30) hx hb dX2_noteAt_18 (by decide) (by omega) (by omega) (fun c2 => ?_) (fun c2 => ?_)
    · -- 18 t
      omega
    · -- 18 f
      refine lv_aload_n hx hb dX2_noteAt_21 rfl (lv_at hl 0 rfl) ?_
      refine va_get (D := E.1) (ci := 2) (v := .ref bo) (C := RX2) (T := TX2) (N := 3) hx hb hts iwX2_noteAt_X2_c_X2_noteAt hown hG.1 hP 0 rfl rfl 1 (by decide) (hts (.fieldLink RX2 11 "FrettedStrings$Notes" "order" "[I") (by decide +kernel)) (fun _ h9 => h9) rfl dX2_noteAt_22 ?_
      refine lv_iload_n hx hb dX2_noteAt_25 rfl (lv_at hl 1 rfl) ?_
      refine z_iald (j := i) (v := Or i) hx hb hG hP 1 rfl (by omega) (by decide) (rfl) dX2_noteAt_26 ?_
      refine lv_goto (tgt := 31) hx hb dX2_noteAt_27 (by decide) ?_
      exact hret _ _ _ dX2_noteAt_31 (rfl)
set_option maxHeartbeats 1000000 in
set_option maxRecDepth 100000 in
theorem c_X2_stringOf (l : Launch) (E : zE) (u bo bt sz i : Nat) (Or : Nat → Nat) (hsz : sz ≤ 52) (hi : i < sz) (hOr : ∀ i, i < 52 → Or i < 52) : zR l yX2_stringOf wsX2_stringOf ({ frames := 1, cells := 0, slots := 0, locals := 21 }) E [.ref u, .int (nI i)] [(u, .inr (2, [.int (nI sz), .ref bo, .ref bt])), (bo, .inl (E.2.1, 52, .inl (fun zz => nI (Or zz))))] (fun r => r = nI (Or i / 13)) := by
  refine zR.start (own := RX2) rfl (by decide +kernel) rfl (Nat.le_of_ble_eq_true rfl) (fun _ _ => rfl) ?_
  intro pZ eZ sZ mZ argsZ belowZ methZ cZ QZ hF hret hP hG ls hl
  obtain ⟨hx, hb, hml, hown, hts⟩ := id hF
  have hl : lv_has ls 2 [(0, .ref u), (1, .int (nI i))] := hl
  refine lv_aload_n hx hb dX2_stringOf_0 rfl (lv_at hl 0 rfl) ?_
  refine lv_iload_n hx hb dX2_stringOf_1 rfl (lv_at hl 1 rfl) ?_
  have hPc := zP_sub (w := [(u, .inr (2, [.int (nI sz), .ref bo, .ref bt])), (bo, .inl (E.2.1, 52, .inl (fun zz => nI (Or zz))))]) hP [0, 1] rfl
  refine z_rd (fun _ h => h) (va_runV (As := [.int (nI i)]) (rest := []) hF (c_X2_noteAt l E u bo bt sz i Or (by omega) (by omega)) (cwV 1 hts gX2_stringOf_X2_noteAt rfl rfl rfl (by decide +kernel) ⟨Nat.le_of_ble_eq_true rfl, Nat.le_of_ble_eq_true rfl⟩) (z_preRV (va_recv hG.1 hP (ci := 2) (q0 := 0) rfl rfl) hPc hG) rfl rfl hl.1 rfl (lv_room (Nat.le_of_ble_eq_true rfl)) dX2_stringOf_2 ⟨Nat.zero_le _, Nat.zero_le _⟩) (fun r1 hr1 => ?_)
  subst hr1
  have hoi := hOr i (by omega)
  refine lv_bipush (v := nI 13) hx hb dX2_stringOf_5 (by decide) ?_
  refine z_idiv (a := Or i) (b := 13) hx hb dX2_stringOf_7 (by omega) (by omega) (by omega) ?_
  exact hret _ _ _ dX2_stringOf_8 (by first | rfl | (congr 1; omega))
set_option maxHeartbeats 1000000 in
set_option maxRecDepth 100000 in
theorem c_X2_fretOf (l : Launch) (E : zE) (u bo bt sz i : Nat) (Or : Nat → Nat) (hsz : sz ≤ 52) (hi : i < sz) (hOr : ∀ i, i < 52 → Or i < 52) : zR l yX2_fretOf wsX2_fretOf ({ frames := 1, cells := 0, slots := 0, locals := 21 }) E [.ref u, .int (nI i)] [(u, .inr (2, [.int (nI sz), .ref bo, .ref bt])), (bo, .inl (E.2.1, 52, .inl (fun zz => nI (Or zz))))] (fun r => r = nI (Or i % 13)) := by
  refine zR.start (own := RX2) rfl (by decide +kernel) rfl (Nat.le_of_ble_eq_true rfl) (fun _ _ => rfl) ?_
  intro pZ eZ sZ mZ argsZ belowZ methZ cZ QZ hF hret hP hG ls hl
  obtain ⟨hx, hb, hml, hown, hts⟩ := id hF
  have hl : lv_has ls 2 [(0, .ref u), (1, .int (nI i))] := hl
  refine lv_aload_n hx hb dX2_fretOf_0 rfl (lv_at hl 0 rfl) ?_
  refine lv_iload_n hx hb dX2_fretOf_1 rfl (lv_at hl 1 rfl) ?_
  have hPc := zP_sub (w := [(u, .inr (2, [.int (nI sz), .ref bo, .ref bt])), (bo, .inl (E.2.1, 52, .inl (fun zz => nI (Or zz))))]) hP [0, 1] rfl
  refine z_rd (fun _ h => h) (va_runV (As := [.int (nI i)]) (rest := []) hF (c_X2_noteAt l E u bo bt sz i Or (by omega) (by omega)) (cwV 1 hts gX2_fretOf_X2_noteAt rfl rfl rfl (by decide +kernel) ⟨Nat.le_of_ble_eq_true rfl, Nat.le_of_ble_eq_true rfl⟩) (z_preRV (va_recv hG.1 hP (ci := 2) (q0 := 0) rfl rfl) hPc hG) rfl rfl hl.1 rfl (lv_room (Nat.le_of_ble_eq_true rfl)) dX2_fretOf_2 ⟨Nat.zero_le _, Nat.zero_le _⟩) (fun r1 hr1 => ?_)
  subst hr1
  have hoi := hOr i (by omega)
  refine lv_bipush (v := nI 13) hx hb dX2_fretOf_5 (by decide) ?_
  refine z_irem (a := Or i) (b := 13) hx hb dX2_fretOf_7 (by omega) (by omega) (by omega) ?_
  exact hret _ _ _ dX2_fretOf_8 (by first | rfl | (congr 1; omega))
theorem iwX2_timesOf_X2_c_X2_timesOf : ∀ w ∈ wsX20, w ∈ wsX2_timesOf := by decide +kernel
set_option maxHeartbeats 1000000 in
set_option maxRecDepth 100000 in
theorem c_X2_timesOf (l : Launch) (E : zE) (u bo bt sz i : Nat) (Or Ti : Nat → Nat) (hsz : sz ≤ 52) (hi : i < sz) (hOr : ∀ i, i < 52 → Or i < 52) : zR l yX2_timesOf wsX2_timesOf ({ frames := 1, cells := 0, slots := 0, locals := 21 }) E [.ref u, .int (nI i)] [(u, .inr (2, [.int (nI sz), .ref bo, .ref bt])), (bo, .inl (E.2.1, 52, .inl (fun zz => nI (Or zz)))), (bt, .inl (E.2.1, 52, .inl (fun zz => nI (Ti zz))))] (fun r => r = nI (Ti (Or i))) := by
  refine zR.start (own := RX2) rfl (by decide +kernel) rfl (Nat.le_of_ble_eq_true rfl) (fun _ _ => rfl) ?_
  intro pZ eZ sZ mZ argsZ belowZ methZ cZ QZ hF hret hP hG ls hl
  obtain ⟨hx, hb, hml, hown, hts⟩ := id hF
  have hl : lv_has ls 3 [(0, .ref u), (1, .int (nI i))] := hl
  refine lv_aload_n hx hb dX2_timesOf_0 rfl (lv_at hl 0 rfl) ?_
  refine lv_iload_n hx hb dX2_timesOf_1 rfl (lv_at hl 1 rfl) ?_
  have hPc := zP_sub (w := [(u, .inr (2, [.int (nI sz), .ref bo, .ref bt])), (bo, .inl (E.2.1, 52, .inl (fun zz => nI (Or zz))))]) hP [0, 1] rfl
  refine z_rd (fun _ h => h) (va_runV (As := [.int (nI i)]) (rest := []) hF (c_X2_noteAt l E u bo bt sz i Or (by omega) (by omega)) (cwV 1 hts gX2_timesOf_X2_noteAt rfl rfl rfl (by decide +kernel) ⟨Nat.le_of_ble_eq_true rfl, Nat.le_of_ble_eq_true rfl⟩) (z_preRV (va_recv hG.1 hP (ci := 2) (q0 := 0) rfl rfl) hPc hG) rfl rfl hl.1 rfl (lv_room (Nat.le_of_ble_eq_true rfl)) dX2_timesOf_2 ⟨Nat.zero_le _, Nat.zero_le _⟩) (fun r1 hr1 => ?_)
  subst hr1
  have hoi := hOr i (by omega)
  refine lv_istore_n (lv' := [(2, .int (nI (Or i))), (0, .ref u), (1, .int (nI i))]) hx hb dX2_timesOf_5 rfl hl (by decide) rfl (fun ls hl => ?_)
  refine lv_iload_n hx hb dX2_timesOf_6 rfl (lv_at hl 0 rfl) ?_
  refine z_if_lt (tgt := 28) hx hb dX2_timesOf_7 (by decide) (by omega) ?_
  refine lv_iload_n hx hb dX2_timesOf_10 rfl (lv_at hl 0 rfl) ?_
  refine lv_aload_n hx hb dX2_timesOf_11 rfl (lv_at hl 1 rfl) ?_
  refine va_get (D := E.1) (ci := 2) (v := .ref bt) (C := RX2) (T := TX2) (N := 3) hx hb hts iwX2_timesOf_X2_c_X2_timesOf hown hG.1 hP 0 rfl rfl 2 (by decide) (hts (.fieldLink RX2 15 "FrettedStrings$Notes" "times" "[I") (by decide +kernel)) (fun _ h9 => h9) rfl dX2_timesOf_12 ?_
  refine va_alen (v := nI 52) hx hb hG.1 hP 2 0 rfl rfl rfl dX2_timesOf_15 ?_
  refine z_icmp_ge (a := Or i) (b := 52) (tgt := 28) hx hb dX2_timesOf_16 (by decide) (by omega) (by omega) (fun c2 => ?_) (fun c2 => ?_)
  · -- 16 t
    omega
  · -- 16 f
    refine lv_aload_n hx hb dX2_timesOf_19 rfl (lv_at hl 1 rfl) ?_
    refine va_get (D := E.1) (ci := 2) (v := .ref bt) (C := RX2) (T := TX2) (N := 3) hx hb hts iwX2_timesOf_X2_c_X2_timesOf hown hG.1 hP 0 rfl rfl 2 (by decide) (hts (.fieldLink RX2 15 "FrettedStrings$Notes" "times" "[I") (by decide +kernel)) (fun _ h9 => h9) rfl dX2_timesOf_20 ?_
    refine lv_iload_n hx hb dX2_timesOf_23 rfl (lv_at hl 0 rfl) ?_
    refine z_iald (j := Or i) (v := Ti (Or i)) hx hb hG hP 2 rfl (by omega) (by decide) (rfl) dX2_timesOf_24 ?_
    refine lv_goto (tgt := 29) hx hb dX2_timesOf_25 (by decide) ?_
    exact hret _ _ _ dX2_timesOf_29 (rfl)
theorem iwX2_copyFrom_X2_c_X2_copyFrom : ∀ w ∈ wsX20, w ∈ wsX2_copyFrom := by decide +kernel
set_option maxHeartbeats 1000000 in
set_option maxRecDepth 100000 in
theorem c_X2_copyFrom (l : Launch) (E : zE) (u bo bt sz u2 bo2 bt2 sz2 : Nat) (Or Ti Or2 Ti2 : Nat → Nat)  : zV l yX2_copyFrom wsX2_copyFrom ({ frames := 1, cells := 0, slots := 0, locals := 40 }) E [.ref u, .ref u2] [(u, .inr (2, [.int (nI sz), .ref bo, .ref bt])), (bo, .inl (E.2.1, 52, .inl (fun zz => nI (Or zz)))), (bt, .inl (E.2.1, 52, .inl (fun zz => nI (Ti zz)))), (u2, .inr (2, [.int (nI sz2), .ref bo2, .ref bt2])), (bo2, .inl (E.2.1, 52, .inl (fun zz => nI (Or2 zz)))), (bt2, .inl (E.2.1, 52, .inl (fun zz => nI (Ti2 zz))))] (fun w' => w' = [(u, .inr (2, [.int (nI sz2), .ref bo, .ref bt])), (bo, .inl (E.2.1, 52, .inl (fun zz => nI (Or2 zz)))), (bt, .inl (E.2.1, 52, .inl (fun zz => nI (Ti2 zz)))), (u2, .inr (2, [.int (nI sz2), .ref bo2, .ref bt2])), (bo2, .inl (E.2.1, 52, .inl (fun zz => nI (Or2 zz)))), (bt2, .inl (E.2.1, 52, .inl (fun zz => nI (Ti2 zz))))]) := by
  refine zV.start (own := RX2) rfl (by decide +kernel) rfl (Nat.le_of_ble_eq_true rfl) ?_
  intro pZ eZ sZ mZ argsZ belowZ methZ cZ QZ AZ hF hret HZ locsZ hP hD hS hG ls hl
  obtain ⟨hx, hb, hml, hown, hts⟩ := id hF
  have hl : lv_has ls 2 [(0, .ref u), (1, .ref u2)] := hl
  refine lv_aload_n hx hb dX2_copyFrom_0 rfl (lv_at hl 0 rfl) ?_
  refine lv_aload_n hx hb dX2_copyFrom_1 rfl (lv_at hl 1 rfl) ?_
  refine va_get (D := E.1) (ci := 2) (v := .int (nI sz2)) (C := RX2) (T := TX2) (N := 3) hx hb hts iwX2_copyFrom_X2_c_X2_copyFrom hown hG.1 hP 3 rfl rfl 0 (by decide) (hts (.fieldLink RX2 18 "FrettedStrings$Notes" "size" "I") (by decide +kernel)) (fun _ h9 => h9) rfl dX2_copyFrom_2 ?_
  refine va_put (D := E.1) (ci := 2) (v := .int (nI sz2)) (ty := .int) (C := RX2) (T := TX2) (N := 3) hx hb hts iwX2_copyFrom_X2_c_X2_copyFrom tyX2 tyX2_ok nmX2 hown hG.1 hP hD hS 0 rfl rfl 0 (by decide) (hts (.fieldLink RX2 18 "FrettedStrings$Notes" "size" "I") (by decide +kernel)) (fun _ h9 => h9) rfl (by decide +kernel) rfl rfl (Nat.le_of_ble_eq_true rfl) dX2_copyFrom_5 (fun HZ locsZ hP hD hS => ?_)
  have hP : va_P E.1 vwCl [(u, .inr (2, [.int (nI sz2), .ref bo, .ref bt])), (bo, .inl (E.2.1, 52, .inl (fun zz => nI (Or zz)))), (bt, .inl (E.2.1, 52, .inl (fun zz => nI (Ti zz)))), (u2, .inr (2, [.int (nI sz2), .ref bo2, .ref bt2])), (bo2, .inl (E.2.1, 52, .inl (fun zz => nI (Or2 zz)))), (bt2, .inl (E.2.1, 52, .inl (fun zz => nI (Ti2 zz))))] _ := hP
  have hD : va_D AZ [(u, .inr (2, [.int (nI sz2), .ref bo, .ref bt])), (bo, .inl (E.2.1, 52, .inl (fun zz => nI (Or zz)))), (bt, .inl (E.2.1, 52, .inl (fun zz => nI (Ti zz)))), (u2, .inr (2, [.int (nI sz2), .ref bo2, .ref bt2])), (bo2, .inl (E.2.1, 52, .inl (fun zz => nI (Or2 zz)))), (bt2, .inl (E.2.1, 52, .inl (fun zz => nI (Ti2 zz))))] := hD
  refine lv_aload_n hx hb dX2_copyFrom_8 rfl (lv_at hl 1 rfl) ?_
  refine va_get (D := E.1) (ci := 2) (v := .ref bo2) (C := RX2) (T := TX2) (N := 3) hx hb hts iwX2_copyFrom_X2_c_X2_copyFrom hown hG.1 hP 3 rfl rfl 1 (by decide) (hts (.fieldLink RX2 11 "FrettedStrings$Notes" "order" "[I") (by decide +kernel)) (fun _ h9 => h9) rfl dX2_copyFrom_9 ?_
  refine lv_iconst (v := nI 0) hx hb dX2_copyFrom_12 (by decide) ?_
  refine lv_aload_n hx hb dX2_copyFrom_13 rfl (lv_at hl 0 rfl) ?_
  refine va_get (D := E.1) (ci := 2) (v := .ref bo) (C := RX2) (T := TX2) (N := 3) hx hb hts iwX2_copyFrom_X2_c_X2_copyFrom hown hG.1 hP 0 rfl rfl 1 (by decide) (hts (.fieldLink RX2 11 "FrettedStrings$Notes" "order" "[I") (by decide +kernel)) (fun _ h9 => h9) rfl dX2_copyFrom_14 ?_
  refine lv_iconst (v := nI 0) hx hb dX2_copyFrom_17 (by decide) ?_
  refine lv_bipush (v := nI 52) hx hb dX2_copyFrom_18 (by decide) ?_
  refine z_copy (n := 52) hx hb (hml.trans hl.1.symm) hown (hts (.methodLink RX2 22 arraycopyName) (by decide +kernel)) (hts (.native arraycopyName) (by decide +kernel)) (hts (.static arraycopyName) (by decide +kernel)) (hts (.initialized "java/lang/System") (by decide +kernel)) hG hP hD hS 4 1 rfl rfl (by decide) (Nat.le_of_ble_eq_true rfl) (by decide +kernel) dX2_copyFrom_20 (fun HZ locsZ hP hD hS => ?_)
  have hP : va_P E.1 vwCl [(u, .inr (2, [.int (nI sz2), .ref bo, .ref bt])), (bo, .inl (E.2.1, 52, .inl (fun zz => nI (Or2 zz)))), (bt, .inl (E.2.1, 52, .inl (fun zz => nI (Ti zz)))), (u2, .inr (2, [.int (nI sz2), .ref bo2, .ref bt2])), (bo2, .inl (E.2.1, 52, .inl (fun zz => nI (Or2 zz)))), (bt2, .inl (E.2.1, 52, .inl (fun zz => nI (Ti2 zz))))] _ := hP
  have hD : va_D AZ [(u, .inr (2, [.int (nI sz2), .ref bo, .ref bt])), (bo, .inl (E.2.1, 52, .inl (fun zz => nI (Or2 zz)))), (bt, .inl (E.2.1, 52, .inl (fun zz => nI (Ti zz)))), (u2, .inr (2, [.int (nI sz2), .ref bo2, .ref bt2])), (bo2, .inl (E.2.1, 52, .inl (fun zz => nI (Or2 zz)))), (bt2, .inl (E.2.1, 52, .inl (fun zz => nI (Ti2 zz))))] := hD
  refine lv_aload_n hx hb dX2_copyFrom_23 rfl (lv_at hl 1 rfl) ?_
  refine va_get (D := E.1) (ci := 2) (v := .ref bt2) (C := RX2) (T := TX2) (N := 3) hx hb hts iwX2_copyFrom_X2_c_X2_copyFrom hown hG.1 hP 3 rfl rfl 2 (by decide) (hts (.fieldLink RX2 15 "FrettedStrings$Notes" "times" "[I") (by decide +kernel)) (fun _ h9 => h9) rfl dX2_copyFrom_24 ?_
  refine lv_iconst (v := nI 0) hx hb dX2_copyFrom_27 (by decide) ?_
  refine lv_aload_n hx hb dX2_copyFrom_28 rfl (lv_at hl 0 rfl) ?_
  refine va_get (D := E.1) (ci := 2) (v := .ref bt) (C := RX2) (T := TX2) (N := 3) hx hb hts iwX2_copyFrom_X2_c_X2_copyFrom hown hG.1 hP 0 rfl rfl 2 (by decide) (hts (.fieldLink RX2 15 "FrettedStrings$Notes" "times" "[I") (by decide +kernel)) (fun _ h9 => h9) rfl dX2_copyFrom_29 ?_
  refine lv_iconst (v := nI 0) hx hb dX2_copyFrom_32 (by decide) ?_
  refine lv_bipush (v := nI 52) hx hb dX2_copyFrom_33 (by decide) ?_
  refine z_copy (n := 52) hx hb (hml.trans hl.1.symm) hown (hts (.methodLink RX2 22 arraycopyName) (by decide +kernel)) (hts (.native arraycopyName) (by decide +kernel)) (hts (.static arraycopyName) (by decide +kernel)) (hts (.initialized "java/lang/System") (by decide +kernel)) hG hP hD hS 5 2 rfl rfl (by decide) (Nat.le_of_ble_eq_true rfl) (by decide +kernel) dX2_copyFrom_35 (fun HZ locsZ hP hD hS => ?_)
  have hP : va_P E.1 vwCl [(u, .inr (2, [.int (nI sz2), .ref bo, .ref bt])), (bo, .inl (E.2.1, 52, .inl (fun zz => nI (Or2 zz)))), (bt, .inl (E.2.1, 52, .inl (fun zz => nI (Ti2 zz)))), (u2, .inr (2, [.int (nI sz2), .ref bo2, .ref bt2])), (bo2, .inl (E.2.1, 52, .inl (fun zz => nI (Or2 zz)))), (bt2, .inl (E.2.1, 52, .inl (fun zz => nI (Ti2 zz))))] _ := hP
  have hD : va_D AZ [(u, .inr (2, [.int (nI sz2), .ref bo, .ref bt])), (bo, .inl (E.2.1, 52, .inl (fun zz => nI (Or2 zz)))), (bt, .inl (E.2.1, 52, .inl (fun zz => nI (Ti2 zz)))), (u2, .inr (2, [.int (nI sz2), .ref bo2, .ref bt2])), (bo2, .inl (E.2.1, 52, .inl (fun zz => nI (Or2 zz)))), (bt2, .inl (E.2.1, 52, .inl (fun zz => nI (Ti2 zz))))] := hD
  exact hret _ _ _ _ _ hP hS dX2_copyFrom_38 rfl rfl
