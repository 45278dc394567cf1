set_option maxHeartbeats 1000000 in
set_option maxRecDepth 100000 in
theorem c_X7_stringsAt (l : Launch) (E : zE) (x ms mp mt md pz len sp fm f sd : Nat) (q1 q2 q3 q4 q5 : Int32) (M : Nat → Nat) (hn : M 0 ≤ 12) (hPb : ∀ i, i < 12 → mP M i ≤ 2400) (hHb : ∀ i, i < 12 → mH M i ≤ 2000) (hprn : ∀ i, i < 4 → mPr M i ≤ M 0) (hf : f ≤ 12) (hsd : sd ≤ 1) : zR l yX7_stringsAt wsX7_stringsAt ({ frames := 4, cells := 0, slots := 0, locals := 92 }) E [.ref x, .int (nI f), .int (nI sd)] [(x, .inr (7, [.ref ms, .ref mp, .int (nI pz), .ref mt, .int (nI len), .ref md, .int (nI sp), .int q1, .int q2, .int q3, .int q4, .int q5, .int (nI fm)])), (ms, .inl (E.2.1, 265, .inl (fun zz => nI (M zz))))] (fun r => r = nI (msL M f sd 4)) := by
  refine zR.start (own := RX7) rfl (by decide +kernel) rfl (Nat.le_of_ble_eq_true rfl) (fun _ _ => rfl) ?_
  intro pZ eZ sZ mZ argsZ belowZ methZ cZ QZ hF hret hP hG ls hl
  obtain ⟨hx, hb, hml, hown, hts⟩ := id hF
  have hl : lv_has ls 6 [(0, .ref x), (1, .int (nI f)), (2, .int (nI sd))] := hl
  refine lv_iconst (v := nI 0) hx hb dX7_stringsAt_0 (by decide) ?_
  refine lv_istore_n (lv' := [(3, .int (nI 0)), (0, .ref x), (1, .int (nI f)), (2, .int (nI sd))]) hx hb dX7_stringsAt_1 rfl hl (by decide) rfl (fun ls hl => ?_)
  refine lv_iconst (v := nI 0) hx hb dX7_stringsAt_2 (by decide) ?_
  refine lv_istore (lv' := [(4, .int (nI 0)), (3, .int (nI 0)), (0, .ref x), (1, .int (nI f)), (2, .int (nI sd))]) hx hb dX7_stringsAt_3 hl (by decide) rfl (fun ls hl => ?_)
  have L5_1 : ∀ (fuelZ : Nat) (g : Nat), 4 - g < fuelZ → (g ≤ 4) → ∀ ls : Array Slot, lv_has ls 6 [(4, .int (nI g)), (3, .int (nI (msL M f sd g))), (0, .ref x), (1, .int (nI f)), (2, .int (nI sd))] → W pZ l eZ ({ frames := 4, cells := 0, slots := 0, locals := 92 }) sZ mZ argsZ belowZ methZ cZ sZ.heap [] 0 0 QZ (F0 mZ 5 ls []) := by
    intro fuelZ
    induction fuelZ with
    | zero => intro g hm; exact absurd hm (Nat.not_lt_zero _)
    | succ fuelZ ih5 =>
      intro g hm i1 ls hl
      refine lv_iload hx hb dX7_stringsAt_5 (lv_at hl 0 rfl) ?_
      refine lv_iconst (v := nI 4) hx hb dX7_stringsAt_7 (by decide) ?_
      refine z_icmp_ge (a := g) (b := 4) (tgt := 56) hx hb dX7_stringsAt_8 (by decide) (by omega) (by omega) (fun c2 => ?_) (fun c2 => ?_)
      · -- 8 t
        refine lv_iload_n hx hb dX7_stringsAt_56 rfl (lv_at hl 1 rfl) ?_
        exact hret _ _ _ dX7_stringsAt_57 (by rw [show g = 4 by omega])
      · -- 8 f
        refine lv_iload_n hx hb dX7_stringsAt_11 rfl (lv_at hl 4 rfl) ?_
        refine z_if_eq (a := sd) (tgt := 24) hx hb dX7_stringsAt_12 (by decide) (by omega) (fun c3 => ?_) (fun c3 => ?_)
        · -- 12 t
          have hsn : (if sd = 0 then mPr M g else mSo M g) = M (45 + 4 * g + 1) := if_pos c3
          have hb2 : M (45 + 4 * g + 1) ≤ M 0 := hprn g (by omega)
          refine lv_aload_n hx hb dX7_stringsAt_24 rfl (lv_at hl 2 rfl) ?_
          refine lv_iload hx hb dX7_stringsAt_25 (lv_at hl 0 rfl) ?_
          refine lv_iconst (v := nI 1) hx hb dX7_stringsAt_27 (by decide) ?_
          have hPc := zP_sub (w := [(x, .inr (7, [.ref ms, .ref mp, .int (nI pz), .ref mt, .int (nI len), .ref md, .int (nI sp), .int q1, .int q2, .int q3, .int q4, .int q5, .int (nI fm)])), (ms, .inl (E.2.1, 265, .inl (fun zz => nI (M zz))))]) hP [0, 1] rfl
          refine z_rd (fun _ h => h) (va_runV (As := [.int (nI g), .int (nI 1)]) (rest := []) hF (c_X7_of l E x ms mp mt md pz len sp fm g 1 q1 q2 q3 q4 q5 M (by first | assumption | omega) (by first | assumption | omega)) (cwV 2 hts gX7_stringsAt_X7_of rfl rfl rfl (by decide +kernel) ⟨Nat.le_of_ble_eq_true rfl, Nat.le_of_ble_eq_true rfl⟩) (z_preRV (va_recv hG.1 hP (ci := 7) (q0 := 0) rfl rfl) hPc hG) rfl rfl hl.1 rfl (lv_room (Nat.le_of_ble_eq_true rfl)) dX7_stringsAt_28 ⟨Nat.zero_le _, Nat.zero_le _⟩) (fun r4 hr4 => ?_)
          subst hr4
          refine lv_istore (lv' := [(5, .int (nI (M (45 + 4 * g + 1)))), (4, .int (nI g)), (3, .int (nI (msL M f sd g))), (0, .ref x), (1, .int (nI f)), (2, .int (nI sd))]) hx hb dX7_stringsAt_31 hl (by decide) rfl (fun ls hl => ?_)
          refine lv_iload_n hx hb dX7_stringsAt_33 rfl (lv_at hl 2 rfl) ?_
          refine lv_iload hx hb dX7_stringsAt_34 (lv_at hl 0 rfl) ?_
          refine lv_iload_n hx hb dX7_stringsAt_36 rfl (lv_at hl 4 rfl) ?_
          refine z_icmp_ne (a := M (45 + 4 * g + 1)) (b := f) (tgt := 47) hx hb dX7_stringsAt_37 (by decide) (by omega) (by omega) (fun c5 => ?_) (fun c5 => ?_)
          · -- 37 t
            refine lv_iconst (v := nI 0) hx hb dX7_stringsAt_47 (by decide) ?_
            refine z_ior (a := msL M f sd g) (b := 0) hx hb dX7_stringsAt_48 ?_
            refine lv_istore_n (lv' := [(3, .int (nI ((msL M f sd g) ||| 0))), (5, .int (nI (M (45 + 4 * g + 1)))), (4, .int (nI g)), (0, .ref x), (1, .int (nI f)), (2, .int (nI sd))]) hx hb dX7_stringsAt_49 rfl hl (by decide) rfl (fun ls hl => ?_)
            refine z_iinc (k := 2) (d := 1) (lv' := [(4, .int (nI (g + 1))), (3, .int (nI ((msL M f sd g) ||| 0))), (5, .int (nI (M (45 + 4 * g + 1)))), (0, .ref x), (1, .int (nI f)), (2, .int (nI sd))]) hx hb dX7_stringsAt_50 (by decide) hl rfl (by decide) rfl (fun ls hl => ?_)
            refine lv_goto (tgt := 5) hx hb dX7_stringsAt_53 (by decide) ?_
            have e6 : nI ((msL M f sd g) ||| 0) = nI (msL M f sd (g + 1)) := by simp only [msL]; first | rw [hsn, if_pos (by assumption)] | rw [hsn, if_neg (by assumption)] | rw [hsn, if_neg (by assumption), Nat.or_zero]
            have hl : lv_has ls 6 [(4, .int (nI (g + 1))), (3, .int (nI (msL M f sd (g + 1)))), (5, .int (nI (M (45 + 4 * g + 1)))), (0, .ref x), (1, .int (nI f)), (2, .int (nI sd))] := Eq.subst (motive := fun XX : Int32 => lv_has ls 6 [(4, .int (nI (g + 1))), (3, .int XX), (5, .int (nI (M (45 + 4 * g + 1)))), (0, .ref x), (1, .int (nI f)), (2, .int (nI sd))]) e6 hl
            exact ih5 (g + 1) (by omega) (by omega) _ (lv_sub hl [0, 1, 3, 4, 5] rfl)
          · -- 37 f
            refine lv_iconst (v := nI 1) hx hb dX7_stringsAt_40 (by decide) ?_
            refine lv_iload hx hb dX7_stringsAt_41 (lv_at hl 1 rfl) ?_
            refine z_ishl (b := g) hx hb dX7_stringsAt_43 (by omega) ?_
            refine lv_goto (tgt := 48) hx hb dX7_stringsAt_44 (by decide) ?_
            refine z_ior (a := msL M f sd g) (b := 2 ^ g) hx hb dX7_stringsAt_48 ?_
            refine lv_istore_n (lv' := [(3, .int (nI ((msL M f sd g) ||| (2 ^ g)))), (5, .int (nI (M (45 + 4 * g + 1)))), (4, .int (nI g)), (0, .ref x), (1, .int (nI f)), (2, .int (nI sd))]) hx hb dX7_stringsAt_49 rfl hl (by decide) rfl (fun ls hl => ?_)
            refine z_iinc (k := 2) (d := 1) (lv' := [(4, .int (nI (g + 1))), (3, .int (nI ((msL M f sd g) ||| (2 ^ g)))), (5, .int (nI (M (45 + 4 * g + 1)))), (0, .ref x), (1, .int (nI f)), (2, .int (nI sd))]) hx hb dX7_stringsAt_50 (by decide) hl rfl (by decide) rfl (fun ls hl => ?_)
            refine lv_goto (tgt := 5) hx hb dX7_stringsAt_53 (by decide) ?_
            have e7 : nI ((msL M f sd g) ||| (2 ^ g)) = nI (msL M f sd (g + 1)) := by simp only [msL]; first | rw [hsn, if_pos (by assumption)] | rw [hsn, if_neg (by assumption)] | rw [hsn, if_neg (by assumption), Nat.or_zero]
            have hl : lv_has ls 6 [(4, .int (nI (g + 1))), (3, .int (nI (msL M f sd (g + 1)))), (5, .int (nI (M (45 + 4 * g + 1)))), (0, .ref x), (1, .int (nI f)), (2, .int (nI sd))] := Eq.subst (motive := fun XX : Int32 => lv_has ls 6 [(4, .int (nI (g + 1))), (3, .int XX), (5, .int (nI (M (45 + 4 * g + 1)))), (0, .ref x), (1, .int (nI f)), (2, .int (nI sd))]) e7 hl
            exact ih5 (g + 1) (by omega) (by omega) _ (lv_sub hl [0, 1, 3, 4, 5] rfl)
        · -- 12 f
          have hsn : (if sd = 0 then mPr M g else mSo M g) = mSo M g := if_neg (by omega)
          have hb2 : mSo M g ≤ M 0 := mSo_le hprn (by omega)
          refine lv_aload_n hx hb dX7_stringsAt_15 rfl (lv_at hl 2 rfl) ?_
          refine lv_iload hx hb dX7_stringsAt_16 (lv_at hl 0 rfl) ?_
          have hPc := zP_sub (w := [(x, .inr (7, [.ref ms, .ref mp, .int (nI pz), .ref mt, .int (nI len), .ref md, .int (nI sp), .int q1, .int q2, .int q3, .int q4, .int q5, .int (nI fm)])), (ms, .inl (E.2.1, 265, .inl (fun zz => nI (M zz))))]) hP [0, 1] rfl
          refine z_rd (fun _ h => h) (va_runV (As := [.int (nI g)]) (rest := []) hF (c_X7_sounds l E x ms mp mt md pz len sp fm g q1 q2 q3 q4 q5 M (by first | assumption | omega) (by first | assumption | omega) (by first | assumption | omega) (by first | assumption | omega) (by first | assumption | omega)) (cwV 1 hts gX7_stringsAt_X7_sounds rfl rfl rfl (by decide +kernel) ⟨Nat.le_of_ble_eq_true rfl, Nat.le_of_ble_eq_true rfl⟩) (z_preRV (va_recv hG.1 hP (ci := 7) (q0 := 0) rfl rfl) hPc hG) rfl rfl hl.1 rfl (lv_room (Nat.le_of_ble_eq_true rfl)) dX7_stringsAt_18 ⟨Nat.zero_le _, Nat.zero_le _⟩) (fun r8 hr8 => ?_)
          subst hr8
          refine lv_goto (tgt := 31) hx hb dX7_stringsAt_21 (by decide) ?_
          refine lv_istore (lv' := [(5, .int (nI (mSo M g))), (4, .int (nI g)), (3, .int (nI (msL M f sd g))), (0, .ref x), (1, .int (nI f)), (2, .int (nI sd))]) hx hb dX7_stringsAt_31 hl (by decide) rfl (fun ls hl => ?_)
          refine lv_iload_n hx hb dX7_stringsAt_33 rfl (lv_at hl 2 rfl) ?_
          refine lv_iload hx hb dX7_stringsAt_34 (lv_at hl 0 rfl) ?_
          refine lv_iload_n hx hb dX7_stringsAt_36 rfl (lv_at hl 4 rfl) ?_
          refine z_icmp_ne (a := mSo M g) (b := f) (tgt := 47) hx hb dX7_stringsAt_37 (by decide) (by omega) (by omega) (fun c9 => ?_) (fun c9 => ?_)
          · -- 37 t
            refine lv_iconst (v := nI 0) hx hb dX7_stringsAt_47 (by decide) ?_
            refine z_ior (a := msL M f sd g) (b := 0) hx hb dX7_stringsAt_48 ?_
            refine lv_istore_n (lv' := [(3, .int (nI ((msL M f sd g) ||| 0))), (5, .int (nI (mSo M g))), (4, .int (nI g)), (0, .ref x), (1, .int (nI f)), (2, .int (nI sd))]) hx hb dX7_stringsAt_49 rfl hl (by decide) rfl (fun ls hl => ?_)
            refine z_iinc (k := 2) (d := 1) (lv' := [(4, .int (nI (g + 1))), (3, .int (nI ((msL M f sd g) ||| 0))), (5, .int (nI (mSo M g))), (0, .ref x), (1, .int (nI f)), (2, .int (nI sd))]) hx hb dX7_stringsAt_50 (by decide) hl rfl (by decide) rfl (fun ls hl => ?_)
            refine lv_goto (tgt := 5) hx hb dX7_stringsAt_53 (by decide) ?_
            have e10 : nI ((msL M f sd g) ||| 0) = nI (msL M f sd (g + 1)) := by simp only [msL]; first | rw [hsn, if_pos (by assumption)] | rw [hsn, if_neg (by assumption)] | rw [hsn, if_neg (by assumption), Nat.or_zero]
            have hl : lv_has ls 6 [(4, .int (nI (g + 1))), (3, .int (nI (msL M f sd (g + 1)))), (5, .int (nI (mSo M g))), (0, .ref x), (1, .int (nI f)), (2, .int (nI sd))] := Eq.subst (motive := fun XX : Int32 => lv_has ls 6 [(4, .int (nI (g + 1))), (3, .int XX), (5, .int (nI (mSo M g))), (0, .ref x), (1, .int (nI f)), (2, .int (nI sd))]) e10 hl
            exact ih5 (g + 1) (by omega) (by omega) _ (lv_sub hl [0, 1, 3, 4, 5] rfl)
          · -- 37 f
            refine lv_iconst (v := nI 1) hx hb dX7_stringsAt_40 (by decide) ?_
            refine lv_iload hx hb dX7_stringsAt_41 (lv_at hl 1 rfl) ?_
            refine z_ishl (b := g) hx hb dX7_stringsAt_43 (by omega) ?_
            refine lv_goto (tgt := 48) hx hb dX7_stringsAt_44 (by decide) ?_
            refine z_ior (a := msL M f sd g) (b := 2 ^ g) hx hb dX7_stringsAt_48 ?_
            refine lv_istore_n (lv' := [(3, .int (nI ((msL M f sd g) ||| (2 ^ g)))), (5, .int (nI (mSo M g))), (4, .int (nI g)), (0, .ref x), (1, .int (nI f)), (2, .int (nI sd))]) hx hb dX7_stringsAt_49 rfl hl (by decide) rfl (fun ls hl => ?_)
            refine z_iinc (k := 2) (d := 1) (lv' := [(4, .int (nI (g + 1))), (3, .int (nI ((msL M f sd g) ||| (2 ^ g)))), (5, .int (nI (mSo M g))), (0, .ref x), (1, .int (nI f)), (2, .int (nI sd))]) hx hb dX7_stringsAt_50 (by decide) hl rfl (by decide) rfl (fun ls hl => ?_)
            refine lv_goto (tgt := 5) hx hb dX7_stringsAt_53 (by decide) ?_
            have e11 : nI ((msL M f sd g) ||| (2 ^ g)) = nI (msL M f sd (g + 1)) := by simp only [msL]; first | rw [hsn, if_pos (by assumption)] | rw [hsn, if_neg (by assumption)] | rw [hsn, if_neg (by assumption), Nat.or_zero]
            have hl : lv_has ls 6 [(4, .int (nI (g + 1))), (3, .int (nI (msL M f sd (g + 1)))), (5, .int (nI (mSo M g))), (0, .ref x), (1, .int (nI f)), (2, .int (nI sd))] := Eq.subst (motive := fun XX : Int32 => lv_has ls 6 [(4, .int (nI (g + 1))), (3, .int XX), (5, .int (nI (mSo M g))), (0, .ref x), (1, .int (nI f)), (2, .int (nI sd))]) e11 hl
            exact ih5 (g + 1) (by omega) (by omega) _ (lv_sub hl [0, 1, 3, 4, 5] rfl)
  have e12 : nI 0 = nI (msL M f sd 0) := by rfl
  have hl : lv_has ls 6 [(4, .int (nI 0)), (3, .int (nI (msL M f sd 0))), (0, .ref x), (1, .int (nI f)), (2, .int (nI sd))] := Eq.subst (motive := fun XX : Int32 => lv_has ls 6 [(4, .int (nI 0)), (3, .int XX), (0, .ref x), (1, .int (nI f)), (2, .int (nI sd))]) e12 hl
  exact L5_1 ((4 - 0) + 1) 0 (Nat.lt_succ_self _) (by omega) _ (lv_sub hl [0, 1, 2, 3, 4] rfl)
set_option maxHeartbeats 1000000 in
set_option maxRecDepth 100000 in
theorem c_X7_presses (l : Launch) (E : zE) (x ms mp mt md pz len sp fm s f : Nat) (q1 q2 q3 q4 q5 : Int32) (M Sd : Nat → Nat) (hn : M 0 ≤ 12) (hPb : ∀ i, i < 12 → mP M i ≤ 2400) (hHb : ∀ i, i < 12 → mH M i ≤ 2000) (hprn : ∀ i, i < 4 → mPr M i ≤ M 0) (hs : s < 4) (hf : f ≤ M 0) : zV l yX7_presses wsX7_presses ({ frames := 6, cells := 0, slots := 0, locals := 135 }) E [.ref x, .int (nI s), .int (nI f)] [(x, .inr (7, [.ref ms, .ref mp, .int (nI pz), .ref mt, .int (nI len), .ref md, .int (nI sp), .int q1, .int q2, .int q3, .int q4, .int q5, .int (nI fm)])), (ms, .inl (E.2.1, 265, .inl (fun zz => nI (M zz)))), (md, .inl (E.2.1, 4, .inl (fun zz => nI (Sd zz))))] (fun w' => w' = [(x, .inr (7, [.ref ms, .ref mp, .int (nI pz), .ref mt, .int (nI len), .ref md, .int (nI sp), .int q1, .int q2, .int q3, .int q4, .int q5, .int (nI fm)])), (ms, .inl (E.2.1, 265, .inl (fun zz => nI ((mvL (va_up M (45 + 4 * s + 1) f) (sdL M Sd 4) 4) zz)))), (md, .inl (E.2.1, 4, .inl (fun zz => nI ((sdL M Sd 4) zz))))]) := by
  refine zV.start (own := RX7) rfl (by decide +kernel) rfl (Nat.le_of_ble_eq_true rfl) ?_
  intro pZ eZ sZ mZ argsZ belowZ methZ cZ QZ AZ hF hret HZ locsZ hP hD hS hG ls hl
  obtain ⟨hx, hb, hml, hown, hts⟩ := id hF
  have hl : lv_has ls 3 [(0, .ref x), (1, .int (nI s)), (2, .int (nI f))] := hl
  refine lv_aload_n hx hb dX7_presses_0 rfl (lv_at hl 0 rfl) ?_
  have hPc := zP_sub (w := [(x, .inr (7, [.ref ms, .ref mp, .int (nI pz), .ref mt, .int (nI len), .ref md, .int (nI sp), .int q1, .int q2, .int q3, .int q4, .int q5, .int (nI fm)])), (ms, .inl (E.2.1, 265, .inl (fun zz => nI (M zz)))), (md, .inl (E.2.1, 4, .inl (fun zz => nI (Sd zz))))]) hP [0, 1, 2] rfl
  have hDc := zD_sub (w := [(x, .inr (7, [.ref ms, .ref mp, .int (nI pz), .ref mt, .int (nI len), .ref md, .int (nI sp), .int q1, .int q2, .int q3, .int q4, .int q5, .int (nI fm)])), (ms, .inl (E.2.1, 265, .inl (fun zz => nI (M zz)))), (md, .inl (E.2.1, 4, .inl (fun zz => nI (Sd zz))))]) hD [0, 1, 2] (by decide) rfl
  refine z_vd [0, 1, 2] (va_runV (As := []) (rest := []) hF (c_X7_stands l E x ms mp mt md pz len sp fm q1 q2 q3 q4 q5 M Sd (by first | assumption | omega) (by first | assumption | omega) (by first | assumption | omega) (by first | assumption | omega)) (cwV 0 hts gX7_presses_X7_stands rfl rfl rfl (by decide +kernel) ⟨Nat.le_of_ble_eq_true rfl, Nat.le_of_ble_eq_true rfl⟩) (z_preMV (va_recv hG.1 hP (ci := 7) (q0 := 0) rfl rfl) hPc hDc hG) rfl rfl hl.1 rfl (lv_room (Nat.le_of_ble_eq_true rfl)) dX7_presses_1 ⟨Nat.zero_le _, Nat.zero_le _⟩) hP hD hS rfl (fun w' HZ locsZ hw hP hD hS => ?_)
  subst hw
  have hP : va_P E.1 vwCl [(x, .inr (7, [.ref ms, .ref mp, .int (nI pz), .ref mt, .int (nI len), .ref md, .int (nI sp), .int q1, .int q2, .int q3, .int q4, .int q5, .int (nI fm)])), (ms, .inl (E.2.1, 265, .inl (fun zz => nI (M zz)))), (md, .inl (E.2.1, 4, .inl (fun zz => nI ((sdL M Sd 4) zz))))] _ := hP
  have hD : va_D AZ [(x, .inr (7, [.ref ms, .ref mp, .int (nI pz), .ref mt, .int (nI len), .ref md, .int (nI sp), .int q1, .int q2, .int q3, .int q4, .int q5, .int (nI fm)])), (ms, .inl (E.2.1, 265, .inl (fun zz => nI (M zz)))), (md, .inl (E.2.1, 4, .inl (fun zz => nI ((sdL M Sd 4) zz))))] := hD
  refine lv_aload_n hx hb dX7_presses_4 rfl (lv_at hl 0 rfl) ?_
  refine lv_iload_n hx hb dX7_presses_5 rfl (lv_at hl 1 rfl) ?_
  refine lv_iconst (v := nI 1) hx hb dX7_presses_6 (by decide) ?_
  refine lv_iload_n hx hb dX7_presses_7 rfl (lv_at hl 2 rfl) ?_
  have hPc := zP_sub (w := [(x, .inr (7, [.ref ms, .ref mp, .int (nI pz), .ref mt, .int (nI len), .ref md, .int (nI sp), .int q1, .int q2, .int q3, .int q4, .int q5, .int (nI fm)])), (ms, .inl (E.2.1, 265, .inl (fun zz => nI (M zz))))]) hP [0, 1] rfl
  have hDc := zD_sub (w := [(x, .inr (7, [.ref ms, .ref mp, .int (nI pz), .ref mt, .int (nI len), .ref md, .int (nI sp), .int q1, .int q2, .int q3, .int q4, .int q5, .int (nI fm)])), (ms, .inl (E.2.1, 265, .inl (fun zz => nI (M zz))))]) hD [0, 1] (by decide) rfl
  refine z_vd [0, 1] (va_runV (As := [.int (nI s), .int (nI 1), .int (nI f)]) (rest := []) hF (c_X7_puts l E x ms mp mt md pz len sp fm s 1 f q1 q2 q3 q4 q5 M (by first | assumption | omega) (by first | assumption | omega)) (cwV 3 hts gX7_presses_X7_puts rfl rfl rfl (by decide +kernel) ⟨Nat.le_of_ble_eq_true rfl, Nat.le_of_ble_eq_true rfl⟩) (z_preMV (va_recv hG.1 hP (ci := 7) (q0 := 0) rfl rfl) hPc hDc hG) rfl rfl hl.1 rfl (lv_room (Nat.le_of_ble_eq_true rfl)) dX7_presses_8 ⟨Nat.zero_le _, Nat.zero_le _⟩) hP hD hS rfl (fun w' HZ locsZ hw hP hD hS => ?_)
  subst hw
  have hP : va_P E.1 vwCl [(x, .inr (7, [.ref ms, .ref mp, .int (nI pz), .ref mt, .int (nI len), .ref md, .int (nI sp), .int q1, .int q2, .int q3, .int q4, .int q5, .int (nI fm)])), (ms, .inl (E.2.1, 265, .inl (fun zz => nI ((va_up M (45 + 4 * s + 1) f) zz)))), (md, .inl (E.2.1, 4, .inl (fun zz => nI ((sdL M Sd 4) zz))))] _ := hP
  have hD : va_D AZ [(x, .inr (7, [.ref ms, .ref mp, .int (nI pz), .ref mt, .int (nI len), .ref md, .int (nI sp), .int q1, .int q2, .int q3, .int q4, .int q5, .int (nI fm)])), (ms, .inl (E.2.1, 265, .inl (fun zz => nI ((va_up M (45 + 4 * s + 1) f) zz)))), (md, .inl (E.2.1, 4, .inl (fun zz => nI ((sdL M Sd 4) zz))))] := hD
  have hu := pr_up hn hPb hHb hprn hs hf
  refine lv_aload_n hx hb dX7_presses_11 rfl (lv_at hl 0 rfl) ?_
  have hPc := zP_sub (w := [(x, .inr (7, [.ref ms, .ref mp, .int (nI pz), .ref mt, .int (nI len), .ref md, .int (nI sp), .int q1, .int q2, .int q3, .int q4, .int q5, .int (nI fm)])), (ms, .inl (E.2.1, 265, .inl (fun zz => nI ((va_up M (45 + 4 * s + 1) f) zz)))), (md, .inl (E.2.1, 4, .inl (fun zz => nI ((sdL M Sd 4) zz))))]) hP [0, 1, 2] rfl
  have hDc := zD_sub (w := [(x, .inr (7, [.ref ms, .ref mp, .int (nI pz), .ref mt, .int (nI len), .ref md, .int (nI sp), .int q1, .int q2, .int q3, .int q4, .int q5, .int (nI fm)])), (ms, .inl (E.2.1, 265, .inl (fun zz => nI ((va_up M (45 + 4 * s + 1) f) zz)))), (md, .inl (E.2.1, 4, .inl (fun zz => nI ((sdL M Sd 4) zz))))]) hD [0, 1, 2] (by decide) rfl
  refine z_vd [0, 1, 2] (va_runV (As := []) (rest := []) hF (c_X7_moved l E x ms mp mt md pz len sp fm q1 q2 q3 q4 q5 (va_up M (45 + 4 * s + 1) f) (sdL M Sd 4) (hu.1) (hu.2.1) (hu.2.2.1) (hu.2.2.2) (fun i hi => by simp only [sdL]; rw [if_pos hi]; exact mSt_le hn hPb hprn hi)) (cwV 0 hts gX7_presses_X7_moved rfl rfl rfl (by decide +kernel) ⟨Nat.le_of_ble_eq_true rfl, Nat.le_of_ble_eq_true rfl⟩) (z_preMV (va_recv hG.1 hP (ci := 7) (q0 := 0) rfl rfl) hPc hDc hG) rfl rfl hl.1 rfl (lv_room (Nat.le_of_ble_eq_true rfl)) dX7_presses_12 ⟨Nat.zero_le _, Nat.zero_le _⟩) hP hD hS rfl (fun w' HZ locsZ hw hP hD hS => ?_)
  subst hw
  have hP : va_P E.1 vwCl [(x, .inr (7, [.ref ms, .ref mp, .int (nI pz), .ref mt, .int (nI len), .ref md, .int (nI sp), .int q1, .int q2, .int q3, .int q4, .int q5, .int (nI fm)])), (ms, .inl (E.2.1, 265, .inl (fun zz => nI ((mvL (va_up M (45 + 4 * s + 1) f) (sdL M Sd 4) 4) zz)))), (md, .inl (E.2.1, 4, .inl (fun zz => nI ((sdL M Sd 4) zz))))] _ := hP
  have hD : va_D AZ [(x, .inr (7, [.ref ms, .ref mp, .int (nI pz), .ref mt, .int (nI len), .ref md, .int (nI sp), .int q1, .int q2, .int q3, .int q4, .int q5, .int (nI fm)])), (ms, .inl (E.2.1, 265, .inl (fun zz => nI ((mvL (va_up M (45 + 4 * s + 1) f) (sdL M Sd 4) 4) zz)))), (md, .inl (E.2.1, 4, .inl (fun zz => nI ((sdL M Sd 4) zz))))] := hD
  exact hret _ _ _ _ _ hP hS dX7_presses_15 rfl rfl
theorem iwX7_notes_X7_c_X7_notes : ∀ w ∈ wsX70, w ∈ wsX7_notes := by decide +kernel
set_option maxHeartbeats 1000000 in
set_option maxRecDepth 100000 in
theorem c_X7_notes (l : Launch) (E : zE) (x ms mp mt md pz len sp fm s f : Nat) (q1 q2 q3 q4 q5 : Int32) (M : Nat → Nat) (hs : s < 4) (hf : f ≤ 12) (h52 : M 3 ≤ 52) (hnew : ntF M s f (M 3) 0 = M 3 → M 3 < 52) (hnb : ∀ i, i < 156 → M (109 + i) ≤ 1000000000) : zV l yX7_notes wsX7_notes ({ frames := 0, cells := 0, slots := 0, locals := 0 }) E [.ref x, .int (nI s), .int (nI f)] [(x, .inr (7, [.ref ms, .ref mp, .int (nI pz), .ref mt, .int (nI len), .ref md, .int (nI sp), .int q1, .int q2, .int q3, .int q4, .int q5, .int (nI fm)])), (ms, .inl (E.2.1, 265, .inl (fun zz => nI (M zz))))] (fun w' => w' = [(x, .inr (7, [.ref ms, .ref mp, .int (nI pz), .ref mt, .int (nI len), .ref md, .int (nI sp), .int q1, .int q2, .int q3, .int q4, .int q5, .int (nI fm)])), (ms, .inl (E.2.1, 265, .inl (fun zz => nI ((ntM M s f) zz))))]) := by
  refine zV.start (own := RX7) rfl (by decide +kernel) rfl (Nat.le_of_ble_eq_true rfl) ?_
  intro pZ eZ sZ mZ argsZ belowZ methZ cZ QZ AZ hF hret HZ locsZ hP hD hS hG ls hl
  obtain ⟨hx, hb, hml, hown, hts⟩ := id hF
  have hl : lv_has ls 4 [(0, .ref x), (1, .int (nI s)), (2, .int (nI f))] := hl
  refine lv_iconst (v := nI 0) hx hb dX7_notes_0 (by decide) ?_
  refine lv_istore_n (lv' := [(3, .int (nI 0)), (0, .ref x), (1, .int (nI s)), (2, .int (nI f))]) hx hb dX7_notes_1 rfl hl (by decide) rfl (fun ls hl => ?_)
  have L2_1 : ∀ (fuelZ : Nat) (g : Nat), M 3 - g < fuelZ → (g ≤ M 3) → (ntF M s f (M 3) 0 = ntF M s f (M 3 - g) g) → ∀ (HZ : Heap) (locsZ : List Loc), va_P E.1 vwCl [(x, .inr (7, [.ref ms, .ref mp, .int (nI pz), .ref mt, .int (nI len), .ref md, .int (nI sp), .int q1, .int q2, .int q3, .int q4, .int q5, .int (nI fm)])), (ms, .inl (E.2.1, 265, .inl (fun zz => nI (M zz))))] HZ → va_D AZ [(x, .inr (7, [.ref ms, .ref mp, .int (nI pz), .ref mt, .int (nI len), .ref md, .int (nI sp), .int q1, .int q2, .int q3, .int q4, .int q5, .int (nI fm)])), (ms, .inl (E.2.1, 265, .inl (fun zz => nI (M zz))))] → va_S AZ sZ.heap HZ locsZ → ∀ ls : Array Slot, lv_has ls 4 [(3, .int (nI g)), (0, .ref x), (1, .int (nI s)), (2, .int (nI f))] → W pZ l eZ ({ frames := 0, cells := 0, slots := 0, locals := 0 }) sZ mZ argsZ belowZ methZ cZ HZ locsZ 0 0 QZ (F0 mZ 2 ls []) := by
    intro fuelZ
    induction fuelZ with
    | zero => intro g hm; exact absurd hm (Nat.not_lt_zero _)
    | succ fuelZ ih2 =>
      intro g hm i1 hI HZ locsZ hP hD hS ls hl
      refine lv_iload_n hx hb dX7_notes_2 rfl (lv_at hl 0 rfl) ?_
      refine lv_aload_n hx hb dX7_notes_3 rfl (lv_at hl 1 rfl) ?_
      refine va_get (D := E.1) (ci := 7) (v := .ref ms) (C := RX7) (T := TX7) (N := 13) hx hb hts iwX7_notes_X7_c_X7_notes hown hG.1 hP 0 rfl rfl 0 (by decide) (hts (.fieldLink RX7 7 "FrettedStringsModel" "st" "[I") (by decide +kernel)) (fun _ h9 => h9) rfl dX7_notes_4 ?_
      refine lv_iconst (v := nI 3) hx hb dX7_notes_7 (by decide) ?_
      refine z_iald (j := 3) (v := M 3) hx hb hG hP 1 rfl (by omega) (by decide) (rfl) dX7_notes_8 ?_
      refine z_icmp_ge (a := g) (b := M 3) (tgt := 50) hx hb dX7_notes_9 (by decide) (by omega) (by omega) (fun c2 => ?_) (fun c2 => ?_)
      · -- 9 t
        have hk : ntF M s f (M 3) 0 = g := by first | exact ntF_y hI (by omega) ⟨by assumption, by assumption⟩ | exact ntF_e hI (by omega)
        refine lv_iload_n hx hb dX7_notes_50 rfl (lv_at hl 0 rfl) ?_
        refine lv_aload_n hx hb dX7_notes_51 rfl (lv_at hl 1 rfl) ?_
        refine va_get (D := E.1) (ci := 7) (v := .ref ms) (C := RX7) (T := TX7) (N := 13) hx hb hts iwX7_notes_X7_c_X7_notes hown hG.1 hP 0 rfl rfl 0 (by decide) (hts (.fieldLink RX7 7 "FrettedStringsModel" "st" "[I") (by decide +kernel)) (fun _ h9 => h9) rfl dX7_notes_52 ?_
        refine lv_iconst (v := nI 3) hx hb dX7_notes_55 (by decide) ?_
        refine z_iald (j := 3) (v := M 3) hx hb hG hP 1 rfl (by omega) (by decide) (rfl) dX7_notes_56 ?_
        refine z_icmp_ne (a := g) (b := M 3) (tgt := 110) hx hb dX7_notes_57 (by decide) (by omega) (by omega) (fun c3 => ?_) (fun c3 => ?_)
        · -- 57 t
          refine lv_aload_n hx hb dX7_notes_110 rfl (lv_at hl 1 rfl) ?_
          refine va_get (D := E.1) (ci := 7) (v := .ref ms) (C := RX7) (T := TX7) (N := 13) hx hb hts iwX7_notes_X7_c_X7_notes hown hG.1 hP 0 rfl rfl 0 (by decide) (hts (.fieldLink RX7 7 "FrettedStringsModel" "st" "[I") (by decide +kernel)) (fun _ h9 => h9) rfl dX7_notes_111 ?_
          refine lv_bipush (v := nI 109) hx hb dX7_notes_114 (by decide) ?_
          refine lv_iconst (v := nI 3) hx hb dX7_notes_116 (by decide) ?_
          refine lv_iload_n hx hb dX7_notes_117 rfl (lv_at hl 0 rfl) ?_
          refine z_imul (a := 3) (b := g) hx hb dX7_notes_118 ?_
          refine z_iadd (a := 109) (b := 3 * g) hx hb dX7_notes_119 ?_
          refine lv_iconst (v := nI 2) hx hb dX7_notes_120 (by decide) ?_
          refine z_iadd (a := 109 + (3 * g)) (b := 2) hx hb dX7_notes_121 ?_
          refine lv_dup2_11 hx hb dX7_notes_122 rfl rfl ?_
          refine z_iald (j := (109 + (3 * g)) + 2) (v := M ((109 + (3 * g)) + 2)) hx hb hG hP 1 rfl (by omega) (by decide) (rfl) dX7_notes_123 ?_
          refine lv_iconst (v := nI 1) hx hb dX7_notes_124 (by decide) ?_
          refine z_iadd (a := M ((109 + (3 * g)) + 2)) (b := 1) hx hb dX7_notes_125 ?_
          refine z_iast (j := (109 + (3 * g)) + 2) (v := (M ((109 + (3 * g)) + 2)) + 1) (g := va_up M ((109 + (3 * g)) + 2) ((M ((109 + (3 * g)) + 2)) + 1)) hx hb hG hP hD hS 1 rfl (by omega) (by decide) (rfl) dX7_notes_126 (fun HZ locsZ hP hD hS => ?_)
          have hP : va_P E.1 vwCl [(x, .inr (7, [.ref ms, .ref mp, .int (nI pz), .ref mt, .int (nI len), .ref md, .int (nI sp), .int q1, .int q2, .int q3, .int q4, .int q5, .int (nI fm)])), (ms, .inl (E.2.1, 265, .inl (fun zz => nI ((va_up M ((109 + (3 * g)) + 2) ((M ((109 + (3 * g)) + 2)) + 1)) zz))))] _ := hP
          have hD : va_D AZ [(x, .inr (7, [.ref ms, .ref mp, .int (nI pz), .ref mt, .int (nI len), .ref md, .int (nI sp), .int q1, .int q2, .int q3, .int q4, .int q5, .int (nI fm)])), (ms, .inl (E.2.1, 265, .inl (fun zz => nI ((va_up M ((109 + (3 * g)) + 2) ((M ((109 + (3 * g)) + 2)) + 1)) zz))))] := hD
          have e4 : (va_up M ((109 + (3 * g)) + 2) ((M ((109 + (3 * g)) + 2)) + 1) : Nat → Nat) = ntM M s f := by first | rfl | (unfold ntM; rw [hk]; first | rw [if_pos (by omega)]; rfl | rw [if_neg (by omega)])
          have hP : va_P E.1 vwCl [(x, .inr (7, [.ref ms, .ref mp, .int (nI pz), .ref mt, .int (nI len), .ref md, .int (nI sp), .int q1, .int q2, .int q3, .int q4, .int q5, .int (nI fm)])), (ms, .inl (E.2.1, 265, .inl (fun zz => nI ((ntM M s f) zz))))] HZ := Eq.subst (motive := fun XX : Nat → Nat => va_P E.1 vwCl [(x, .inr (7, [.ref ms, .ref mp, .int (nI pz), .ref mt, .int (nI len), .ref md, .int (nI sp), .int q1, .int q2, .int q3, .int q4, .int q5, .int (nI fm)])), (ms, .inl (E.2.1, 265, .inl (fun zz => nI (XX zz))))] HZ) e4 hP
          have hD : va_D AZ [(x, .inr (7, [.ref ms, .ref mp, .int (nI pz), .ref mt, .int (nI len), .ref md, .int (nI sp), .int q1, .int q2, .int q3, .int q4, .int q5, .int (nI fm)])), (ms, .inl (E.2.1, 265, .inl (fun zz => nI ((ntM M s f) zz))))] := Eq.subst (motive := fun XX : Nat → Nat => va_D AZ [(x, .inr (7, [.ref ms, .ref mp, .int (nI pz), .ref mt, .int (nI len), .ref md, .int (nI sp), .int q1, .int q2, .int q3, .int q4, .int q5, .int (nI fm)])), (ms, .inl (E.2.1, 265, .inl (fun zz => nI (XX zz))))]) e4 hD
          exact hret _ _ _ _ _ hP hS dX7_notes_127 rfl rfl
        · -- 57 f
          have hg52 : g < 52 := by have := hnew (by omega); omega
          refine lv_aload_n hx hb dX7_notes_60 rfl (lv_at hl 1 rfl) ?_
          refine va_get (D := E.1) (ci := 7) (v := .ref ms) (C := RX7) (T := TX7) (N := 13) hx hb hts iwX7_notes_X7_c_X7_notes hown hG.1 hP 0 rfl rfl 0 (by decide) (hts (.fieldLink RX7 7 "FrettedStringsModel" "st" "[I") (by decide +kernel)) (fun _ h9 => h9) rfl dX7_notes_61 ?_
          refine lv_bipush (v := nI 109) hx hb dX7_notes_64 (by decide) ?_
          refine lv_iconst (v := nI 3) hx hb dX7_notes_66 (by decide) ?_
          refine lv_iload_n hx hb dX7_notes_67 rfl (lv_at hl 0 rfl) ?_
          refine z_imul (a := 3) (b := g) hx hb dX7_notes_68 ?_
          refine z_iadd (a := 109) (b := 3 * g) hx hb dX7_notes_69 ?_
          refine lv_iload_n hx hb dX7_notes_70 rfl (lv_at hl 2 rfl) ?_
          refine z_iast (j := 109 + (3 * g)) (v := s) (g := va_up M (109 + (3 * g)) s) hx hb hG hP hD hS 1 rfl (by omega) (by decide) (rfl) dX7_notes_71 (fun HZ locsZ hP hD hS => ?_)
          have hP : va_P E.1 vwCl [(x, .inr (7, [.ref ms, .ref mp, .int (nI pz), .ref mt, .int (nI len), .ref md, .int (nI sp), .int q1, .int q2, .int q3, .int q4, .int q5, .int (nI fm)])), (ms, .inl (E.2.1, 265, .inl (fun zz => nI ((va_up M (109 + (3 * g)) s) zz))))] _ := hP
          have hD : va_D AZ [(x, .inr (7, [.ref ms, .ref mp, .int (nI pz), .ref mt, .int (nI len), .ref md, .int (nI sp), .int q1, .int q2, .int q3, .int q4, .int q5, .int (nI fm)])), (ms, .inl (E.2.1, 265, .inl (fun zz => nI ((va_up M (109 + (3 * g)) s) zz))))] := hD
          refine lv_aload_n hx hb dX7_notes_72 rfl (lv_at hl 1 rfl) ?_
          refine va_get (D := E.1) (ci := 7) (v := .ref ms) (C := RX7) (T := TX7) (N := 13) hx hb hts iwX7_notes_X7_c_X7_notes hown hG.1 hP 0 rfl rfl 0 (by decide) (hts (.fieldLink RX7 7 "FrettedStringsModel" "st" "[I") (by decide +kernel)) (fun _ h9 => h9) rfl dX7_notes_73 ?_
          refine lv_bipush (v := nI 109) hx hb dX7_notes_76 (by decide) ?_
          refine lv_iconst (v := nI 3) hx hb dX7_notes_78 (by decide) ?_
          refine lv_iload_n hx hb dX7_notes_79 rfl (lv_at hl 0 rfl) ?_
          refine z_imul (a := 3) (b := g) hx hb dX7_notes_80 ?_
          refine z_iadd (a := 109) (b := 3 * g) hx hb dX7_notes_81 ?_
          refine lv_iconst (v := nI 1) hx hb dX7_notes_82 (by decide) ?_
          refine z_iadd (a := 109 + (3 * g)) (b := 1) hx hb dX7_notes_83 ?_
          refine lv_iload_n hx hb dX7_notes_84 rfl (lv_at hl 3 rfl) ?_
          refine z_iast (j := (109 + (3 * g)) + 1) (v := f) (g := va_up (va_up M (109 + (3 * g)) s) ((109 + (3 * g)) + 1) f) hx hb hG hP hD hS 1 rfl (by omega) (by decide) (rfl) dX7_notes_85 (fun HZ locsZ hP hD hS => ?_)
          have hP : va_P E.1 vwCl [(x, .inr (7, [.ref ms, .ref mp, .int (nI pz), .ref mt, .int (nI len), .ref md, .int (nI sp), .int q1, .int q2, .int q3, .int q4, .int q5, .int (nI fm)])), (ms, .inl (E.2.1, 265, .inl (fun zz => nI ((va_up (va_up M (109 + (3 * g)) s) ((109 + (3 * g)) + 1) f) zz))))] _ := hP
          have hD : va_D AZ [(x, .inr (7, [.ref ms, .ref mp, .int (nI pz), .ref mt, .int (nI len), .ref md, .int (nI sp), .int q1, .int q2, .int q3, .int q4, .int q5, .int (nI fm)])), (ms, .inl (E.2.1, 265, .inl (fun zz => nI ((va_up (va_up M (109 + (3 * g)) s) ((109 + (3 * g)) + 1) f) zz))))] := hD
          refine lv_aload_n hx hb dX7_notes_86 rfl (lv_at hl 1 rfl) ?_
          refine va_get (D := E.1) (ci := 7) (v := .ref ms) (C := RX7) (T := TX7) (N := 13) hx hb hts iwX7_notes_X7_c_X7_notes hown hG.1 hP 0 rfl rfl 0 (by decide) (hts (.fieldLink RX7 7 "FrettedStringsModel" "st" "[I") (by decide +kernel)) (fun _ h9 => h9) rfl dX7_notes_87 ?_
          refine lv_bipush (v := nI 109) hx hb dX7_notes_90 (by decide) ?_
          refine lv_iconst (v := nI 3) hx hb dX7_notes_92 (by decide) ?_
          refine lv_iload_n hx hb dX7_notes_93 rfl (lv_at hl 0 rfl) ?_
          refine z_imul (a := 3) (b := g) hx hb dX7_notes_94 ?_
          refine z_iadd (a := 109) (b := 3 * g) hx hb dX7_notes_95 ?_
          refine lv_iconst (v := nI 2) hx hb dX7_notes_96 (by decide) ?_
          refine z_iadd (a := 109 + (3 * g)) (b := 2) hx hb dX7_notes_97 ?_
          refine lv_iconst (v := nI 0) hx hb dX7_notes_98 (by decide) ?_
          refine z_iast (j := (109 + (3 * g)) + 2) (v := 0) (g := va_up (va_up (va_up M (109 + (3 * g)) s) ((109 + (3 * g)) + 1) f) ((109 + (3 * g)) + 2) 0) hx hb hG hP hD hS 1 rfl (by omega) (by decide) (rfl) dX7_notes_99 (fun HZ locsZ hP hD hS => ?_)
          have hP : va_P E.1 vwCl [(x, .inr (7, [.ref ms, .ref mp, .int (nI pz), .ref mt, .int (nI len), .ref md, .int (nI sp), .int q1, .int q2, .int q3, .int q4, .int q5, .int (nI fm)])), (ms, .inl (E.2.1, 265, .inl (fun zz => nI ((va_up (va_up (va_up M (109 + (3 * g)) s) ((109 + (3 * g)) + 1) f) ((109 + (3 * g)) + 2) 0) zz))))] _ := hP
          have hD : va_D AZ [(x, .inr (7, [.ref ms, .ref mp, .int (nI pz), .ref mt, .int (nI len), .ref md, .int (nI sp), .int q1, .int q2, .int q3, .int q4, .int q5, .int (nI fm)])), (ms, .inl (E.2.1, 265, .inl (fun zz => nI ((va_up (va_up (va_up M (109 + (3 * g)) s) ((109 + (3 * g)) + 1) f) ((109 + (3 * g)) + 2) 0) zz))))] := hD
          refine lv_aload_n hx hb dX7_notes_100 rfl (lv_at hl 1 rfl) ?_
          refine va_get (D := E.1) (ci := 7) (v := .ref ms) (C := RX7) (T := TX7) (N := 13) hx hb hts iwX7_notes_X7_c_X7_notes hown hG.1 hP 0 rfl rfl 0 (by decide) (hts (.fieldLink RX7 7 "FrettedStringsModel" "st" "[I") (by decide +kernel)) (fun _ h9 => h9) rfl dX7_notes_101 ?_
          refine lv_iconst (v := nI 3) hx hb dX7_notes_104 (by decide) ?_
          refine lv_dup2_11 hx hb dX7_notes_105 rfl rfl ?_
          refine z_iald (j := 3) (v := M 3) hx hb hG hP 1 rfl (by omega) (by decide) (by simp only [va_up]; rw [if_neg (by omega), if_neg (by omega), if_neg (by omega)]) dX7_notes_106 ?_
          refine lv_iconst (v := nI 1) hx hb dX7_notes_107 (by decide) ?_
          refine z_iadd (a := M 3) (b := 1) hx hb dX7_notes_108 ?_
          refine z_iast (j := 3) (v := (M 3) + 1) (g := va_up (va_up (va_up (va_up M (109 + (3 * g)) s) ((109 + (3 * g)) + 1) f) ((109 + (3 * g)) + 2) 0) 3 ((M 3) + 1)) hx hb hG hP hD hS 1 rfl (by omega) (by decide) (rfl) dX7_notes_109 (fun HZ locsZ hP hD hS => ?_)
          have hP : va_P E.1 vwCl [(x, .inr (7, [.ref ms, .ref mp, .int (nI pz), .ref mt, .int (nI len), .ref md, .int (nI sp), .int q1, .int q2, .int q3, .int q4, .int q5, .int (nI fm)])), (ms, .inl (E.2.1, 265, .inl (fun zz => nI ((va_up (va_up (va_up (va_up M (109 + (3 * g)) s) ((109 + (3 * g)) + 1) f) ((109 + (3 * g)) + 2) 0) 3 ((M 3) + 1)) zz))))] _ := hP
          have hD : va_D AZ [(x, .inr (7, [.ref ms, .ref mp, .int (nI pz), .ref mt, .int (nI len), .ref md, .int (nI sp), .int q1, .int q2, .int q3, .int q4, .int q5, .int (nI fm)])), (ms, .inl (E.2.1, 265, .inl (fun zz => nI ((va_up (va_up (va_up (va_up M (109 + (3 * g)) s) ((109 + (3 * g)) + 1) f) ((109 + (3 * g)) + 2) 0) 3 ((M 3) + 1)) zz))))] := hD
          refine lv_aload_n hx hb dX7_notes_110 rfl (lv_at hl 1 rfl) ?_
          refine va_get (D := E.1) (ci := 7) (v := .ref ms) (C := RX7) (T := TX7) (N := 13) hx hb hts iwX7_notes_X7_c_X7_notes hown hG.1 hP 0 rfl rfl 0 (by decide) (hts (.fieldLink RX7 7 "FrettedStringsModel" "st" "[I") (by decide +kernel)) (fun _ h9 => h9) rfl dX7_notes_111 ?_
          refine lv_bipush (v := nI 109) hx hb dX7_notes_114 (by decide) ?_
          refine lv_iconst (v := nI 3) hx hb dX7_notes_116 (by decide) ?_
          refine lv_iload_n hx hb dX7_notes_117 rfl (lv_at hl 0 rfl) ?_
          refine z_imul (a := 3) (b := g) hx hb dX7_notes_118 ?_
          refine z_iadd (a := 109) (b := 3 * g) hx hb dX7_notes_119 ?_
          refine lv_iconst (v := nI 2) hx hb dX7_notes_120 (by decide) ?_
          refine z_iadd (a := 109 + (3 * g)) (b := 2) hx hb dX7_notes_121 ?_
          refine lv_dup2_11 hx hb dX7_notes_122 rfl rfl ?_
          refine z_iald (j := (109 + (3 * g)) + 2) (v := 0) hx hb hG hP 1 rfl (by omega) (by decide) (by simp only [va_up]; rw [if_neg (by omega)]; exact if_pos trivial) dX7_notes_123 ?_
          refine lv_iconst (v := nI 1) hx hb dX7_notes_124 (by decide) ?_
          refine z_iadd (a := 0) (b := 1) hx hb dX7_notes_125 ?_
          refine z_iast (j := (109 + (3 * g)) + 2) (v := 0 + 1) (g := va_up (va_up (va_up (va_up (va_up M (109 + (3 * g)) s) ((109 + (3 * g)) + 1) f) ((109 + (3 * g)) + 2) 0) 3 ((M 3) + 1)) ((109 + (3 * g)) + 2) (0 + 1)) hx hb hG hP hD hS 1 rfl (by omega) (by decide) (rfl) dX7_notes_126 (fun HZ locsZ hP hD hS => ?_)
          have hP : va_P E.1 vwCl [(x, .inr (7, [.ref ms, .ref mp, .int (nI pz), .ref mt, .int (nI len), .ref md, .int (nI sp), .int q1, .int q2, .int q3, .int q4, .int q5, .int (nI fm)])), (ms, .inl (E.2.1, 265, .inl (fun zz => nI ((va_up (va_up (va_up (va_up (va_up M (109 + (3 * g)) s) ((109 + (3 * g)) + 1) f) ((109 + (3 * g)) + 2) 0) 3 ((M 3) + 1)) ((109 + (3 * g)) + 2) (0 + 1)) zz))))] _ := hP
          have hD : va_D AZ [(x, .inr (7, [.ref ms, .ref mp, .int (nI pz), .ref mt, .int (nI len), .ref md, .int (nI sp), .int q1, .int q2, .int q3, .int q4, .int q5, .int (nI fm)])), (ms, .inl (E.2.1, 265, .inl (fun zz => nI ((va_up (va_up (va_up (va_up (va_up M (109 + (3 * g)) s) ((109 + (3 * g)) + 1) f) ((109 + (3 * g)) + 2) 0) 3 ((M 3) + 1)) ((109 + (3 * g)) + 2) (0 + 1)) zz))))] := hD
          have e5 : (va_up (va_up (va_up (va_up (va_up M (109 + (3 * g)) s) ((109 + (3 * g)) + 1) f) ((109 + (3 * g)) + 2) 0) 3 ((M 3) + 1)) ((109 + (3 * g)) + 2) (0 + 1) : Nat → Nat) = ntM M s f := by first | rfl | (unfold ntM; rw [hk]; first | rw [if_pos (by omega)]; rfl | rw [if_neg (by omega)])
          have hP : va_P E.1 vwCl [(x, .inr (7, [.ref ms, .ref mp, .int (nI pz), .ref mt, .int (nI len), .ref md, .int (nI sp), .int q1, .int q2, .int q3, .int q4, .int q5, .int (nI fm)])), (ms, .inl (E.2.1, 265, .inl (fun zz => nI ((ntM M s f) zz))))] HZ := Eq.subst (motive := fun XX : Nat → Nat => va_P E.1 vwCl [(x, .inr (7, [.ref ms, .ref mp, .int (nI pz), .ref mt, .int (nI len), .ref md, .int (nI sp), .int q1, .int q2, .int q3, .int q4, .int q5, .int (nI fm)])), (ms, .inl (E.2.1, 265, .inl (fun zz => nI (XX zz))))] HZ) e5 hP
          have hD : va_D AZ [(x, .inr (7, [.ref ms, .ref mp, .int (nI pz), .ref mt, .int (nI len), .ref md, .int (nI sp), .int q1, .int q2, .int q3, .int q4, .int q5, .int (nI fm)])), (ms, .inl (E.2.1, 265, .inl (fun zz => nI ((ntM M s f) zz))))] := Eq.subst (motive := fun XX : Nat → Nat => va_D AZ [(x, .inr (7, [.ref ms, .ref mp, .int (nI pz), .ref mt, .int (nI len), .ref md, .int (nI sp), .int q1, .int q2, .int q3, .int q4, .int q5, .int (nI fm)])), (ms, .inl (E.2.1, 265, .inl (fun zz => nI (XX zz))))]) e5 hD
          exact hret _ _ _ _ _ hP hS dX7_notes_127 rfl rfl
      · -- 9 f
        have hb1 : M (109 + 3 * g) ≤ 1000000000 := hnb (3 * g) (by omega)
        have hb2 : M (109 + 3 * g + 1) ≤ 1000000000 := hnb (3 * g + 1) (by omega)
        refine lv_aload_n hx hb dX7_notes_12 rfl (lv_at hl 1 rfl) ?_
        refine va_get (D := E.1) (ci := 7) (v := .ref ms) (C := RX7) (T := TX7) (N := 13) hx hb hts iwX7_notes_X7_c_X7_notes hown hG.1 hP 0 rfl rfl 0 (by decide) (hts (.fieldLink RX7 7 "FrettedStringsModel" "st" "[I") (by decide +kernel)) (fun _ h9 => h9) rfl dX7_notes_13 ?_
        refine lv_bipush (v := nI 109) hx hb dX7_notes_16 (by decide) ?_
        refine lv_iconst (v := nI 3) hx hb dX7_notes_18 (by decide) ?_
        refine lv_iload_n hx hb dX7_notes_19 rfl (lv_at hl 0 rfl) ?_
        refine z_imul (a := 3) (b := g) hx hb dX7_notes_20 ?_
        refine z_iadd (a := 109) (b := 3 * g) hx hb dX7_notes_21 ?_
        refine z_iald (j := 109 + (3 * g)) (v := M (109 + (3 * g))) hx hb hG hP 1 rfl (by omega) (by decide) (rfl) dX7_notes_22 ?_
        refine lv_iload_n hx hb dX7_notes_23 rfl (lv_at hl 2 rfl) ?_
        refine z_icmp_ne (a := M (109 + (3 * g))) (b := s) (tgt := 44) hx hb dX7_notes_24 (by decide) (by omega) (by omega) (fun c6 => ?_) (fun c6 => ?_)
        · -- 24 t
          refine z_iinc (k := 0) (d := 1) (lv' := [(3, .int (nI (g + 1))), (0, .ref x), (1, .int (nI s)), (2, .int (nI f))]) hx hb dX7_notes_44 (by decide) hl rfl (by decide) rfl (fun ls hl => ?_)
          refine lv_goto (tgt := 2) hx hb dX7_notes_47 (by decide) ?_
          exact ih2 (g + 1) (by omega) (by omega) (ntF_n hI (by omega) (by first | exact fun q => absurd q.1 (by assumption) | exact fun q => absurd q.2 (by assumption))) _ _ hP hD hS _ (lv_sub hl [0, 1, 2, 3] rfl)
        · -- 24 f
          refine lv_aload_n hx hb dX7_notes_27 rfl (lv_at hl 1 rfl) ?_
          refine va_get (D := E.1) (ci := 7) (v := .ref ms) (C := RX7) (T := TX7) (N := 13) hx hb hts iwX7_notes_X7_c_X7_notes hown hG.1 hP 0 rfl rfl 0 (by decide) (hts (.fieldLink RX7 7 "FrettedStringsModel" "st" "[I") (by decide +kernel)) (fun _ h9 => h9) rfl dX7_notes_28 ?_
          refine lv_bipush (v := nI 109) hx hb dX7_notes_31 (by decide) ?_
          refine lv_iconst (v := nI 3) hx hb dX7_notes_33 (by decide) ?_
          refine lv_iload_n hx hb dX7_notes_34 rfl (lv_at hl 0 rfl) ?_
          refine z_imul (a := 3) (b := g) hx hb dX7_notes_35 ?_
          refine z_iadd (a := 109) (b := 3 * g) hx hb dX7_notes_36 ?_
          refine lv_iconst (v := nI 1) hx hb dX7_notes_37 (by decide) ?_
          refine z_iadd (a := 109 + (3 * g)) (b := 1) hx hb dX7_notes_38 ?_
          refine z_iald (j := (109 + (3 * g)) + 1) (v := M ((109 + (3 * g)) + 1)) hx hb hG hP 1 rfl (by omega) (by decide) (rfl) dX7_notes_39 ?_
          refine lv_iload_n hx hb dX7_notes_40 rfl (lv_at hl 3 rfl) ?_
          refine z_icmp_eq (a := M ((109 + (3 * g)) + 1)) (b := f) (tgt := 50) hx hb dX7_notes_41 (by decide) (by omega) (by omega) (fun c7 => ?_) (fun c7 => ?_)
          · -- 41 t
            have hk : ntF M s f (M 3) 0 = g := by first | exact ntF_y hI (by omega) ⟨by assumption, by assumption⟩ | exact ntF_e hI (by omega)
            refine lv_iload_n hx hb dX7_notes_50 rfl (lv_at hl 0 rfl) ?_
            refine lv_aload_n hx hb dX7_notes_51 rfl (lv_at hl 1 rfl) ?_
            refine va_get (D := E.1) (ci := 7) (v := .ref ms) (C := RX7) (T := TX7) (N := 13) hx hb hts iwX7_notes_X7_c_X7_notes hown hG.1 hP 0 rfl rfl 0 (by decide) (hts (.fieldLink RX7 7 "FrettedStringsModel" "st" "[I") (by decide +kernel)) (fun _ h9 => h9) rfl dX7_notes_52 ?_
            refine lv_iconst (v := nI 3) hx hb dX7_notes_55 (by decide) ?_
            refine z_iald (j := 3) (v := M 3) hx hb hG hP 1 rfl (by omega) (by decide) (rfl) dX7_notes_56 ?_
            refine z_icmp_ne (a := g) (b := M 3) (tgt := 110) hx hb dX7_notes_57 (by decide) (by omega) (by omega) (fun c8 => ?_) (fun c8 => ?_)
            · -- 57 t
              refine lv_aload_n hx hb dX7_notes_110 rfl (lv_at hl 1 rfl) ?_
              refine va_get (D := E.1) (ci := 7) (v := .ref ms) (C := RX7) (T := TX7) (N := 13) hx hb hts iwX7_notes_X7_c_X7_notes hown hG.1 hP 0 rfl rfl 0 (by decide) (hts (.fieldLink RX7 7 "FrettedStringsModel" "st" "[I") (by decide +kernel)) (fun _ h9 => h9) rfl dX7_notes_111 ?_
              refine lv_bipush (v := nI 109) hx hb dX7_notes_114 (by decide) ?_
              refine lv_iconst (v := nI 3) hx hb dX7_notes_116 (by decide) ?_
              refine lv_iload_n hx hb dX7_notes_117 rfl (lv_at hl 0 rfl) ?_
              refine z_imul (a := 3) (b := g) hx hb dX7_notes_118 ?_
              refine z_iadd (a := 109) (b := 3 * g) hx hb dX7_notes_119 ?_
              refine lv_iconst (v := nI 2) hx hb dX7_notes_120 (by decide) ?_
              refine z_iadd (a := 109 + (3 * g)) (b := 2) hx hb dX7_notes_121 ?_
              refine lv_dup2_11 hx hb dX7_notes_122 rfl rfl ?_
              refine z_iald (j := (109 + (3 * g)) + 2) (v := M ((109 + (3 * g)) + 2)) hx hb hG hP 1 rfl (by omega) (by decide) (rfl) dX7_notes_123 ?_
              refine lv_iconst (v := nI 1) hx hb dX7_notes_124 (by decide) ?_
              refine z_iadd (a := M ((109 + (3 * g)) + 2)) (b := 1) hx hb dX7_notes_125 ?_
              refine z_iast (j := (109 + (3 * g)) + 2) (v := (M ((109 + (3 * g)) + 2)) + 1) (g := va_up M ((109 + (3 * g)) + 2) ((M ((109 + (3 * g)) + 2)) + 1)) hx hb hG hP hD hS 1 rfl (by omega) (by decide) (rfl) dX7_notes_126 (fun HZ locsZ hP hD hS => ?_)
              have hP : va_P E.1 vwCl [(x, .inr (7, [.ref ms, .ref mp, .int (nI pz), .ref mt, .int (nI len), .ref md, .int (nI sp), .int q1, .int q2, .int q3, .int q4, .int q5, .int (nI fm)])), (ms, .inl (E.2.1, 265, .inl (fun zz => nI ((va_up M ((109 + (3 * g)) + 2) ((M ((109 + (3 * g)) + 2)) + 1)) zz))))] _ := hP
              have hD : va_D AZ [(x, .inr (7, [.ref ms, .ref mp, .int (nI pz), .ref mt, .int (nI len), .ref md, .int (nI sp), .int q1, .int q2, .int q3, .int q4, .int q5, .int (nI fm)])), (ms, .inl (E.2.1, 265, .inl (fun zz => nI ((va_up M ((109 + (3 * g)) + 2) ((M ((109 + (3 * g)) + 2)) + 1)) zz))))] := hD
              have e9 : (va_up M ((109 + (3 * g)) + 2) ((M ((109 + (3 * g)) + 2)) + 1) : Nat → Nat) = ntM M s f := by first | rfl | (unfold ntM; rw [hk]; first | rw [if_pos (by omega)]; rfl | rw [if_neg (by omega)])
              have hP : va_P E.1 vwCl [(x, .inr (7, [.ref ms, .ref mp, .int (nI pz), .ref mt, .int (nI len), .ref md, .int (nI sp), .int q1, .int q2, .int q3, .int q4, .int q5, .int (nI fm)])), (ms, .inl (E.2.1, 265, .inl (fun zz => nI ((ntM M s f) zz))))] HZ := Eq.subst (motive := fun XX : Nat → Nat => va_P E.1 vwCl [(x, .inr (7, [.ref ms, .ref mp, .int (nI pz), .ref mt, .int (nI len), .ref md, .int (nI sp), .int q1, .int q2, .int q3, .int q4, .int q5, .int (nI fm)])), (ms, .inl (E.2.1, 265, .inl (fun zz => nI (XX zz))))] HZ) e9 hP
              have hD : va_D AZ [(x, .inr (7, [.ref ms, .ref mp, .int (nI pz), .ref mt, .int (nI len), .ref md, .int (nI sp), .int q1, .int q2, .int q3, .int q4, .int q5, .int (nI fm)])), (ms, .inl (E.2.1, 265, .inl (fun zz => nI ((ntM M s f) zz))))] := Eq.subst (motive := fun XX : Nat → Nat => va_D AZ [(x, .inr (7, [.ref ms, .ref mp, .int (nI pz), .ref mt, .int (nI len), .ref md, .int (nI sp), .int q1, .int q2, .int q3, .int q4, .int q5, .int (nI fm)])), (ms, .inl (E.2.1, 265, .inl (fun zz => nI (XX zz))))]) e9 hD
              exact hret _ _ _ _ _ hP hS dX7_notes_127 rfl rfl
            · -- 57 f
              have hg52 : g < 52 := by have := hnew (by omega); omega
              refine lv_aload_n hx hb dX7_notes_60 rfl (lv_at hl 1 rfl) ?_
              refine va_get (D := E.1) (ci := 7) (v := .ref ms) (C := RX7) (T := TX7) (N := 13) hx hb hts iwX7_notes_X7_c_X7_notes hown hG.1 hP 0 rfl rfl 0 (by decide) (hts (.fieldLink RX7 7 "FrettedStringsModel" "st" "[I") (by decide +kernel)) (fun _ h9 => h9) rfl dX7_notes_61 ?_
              refine lv_bipush (v := nI 109) hx hb dX7_notes_64 (by decide) ?_
              refine lv_iconst (v := nI 3) hx hb dX7_notes_66 (by decide) ?_
              refine lv_iload_n hx hb dX7_notes_67 rfl (lv_at hl 0 rfl) ?_
              refine z_imul (a := 3) (b := g) hx hb dX7_notes_68 ?_
              refine z_iadd (a := 109) (b := 3 * g) hx hb dX7_notes_69 ?_
              refine lv_iload_n hx hb dX7_notes_70 rfl (lv_at hl 2 rfl) ?_
              refine z_iast (j := 109 + (3 * g)) (v := s) (g := va_up M (109 + (3 * g)) s) hx hb hG hP hD hS 1 rfl (by omega) (by decide) (rfl) dX7_notes_71 (fun HZ locsZ hP hD hS => ?_)
              have hP : va_P E.1 vwCl [(x, .inr (7, [.ref ms, .ref mp, .int (nI pz), .ref mt, .int (nI len), .ref md, .int (nI sp), .int q1, .int q2, .int q3, .int q4, .int q5, .int (nI fm)])), (ms, .inl (E.2.1, 265, .inl (fun zz => nI ((va_up M (109 + (3 * g)) s) zz))))] _ := hP
              have hD : va_D AZ [(x, .inr (7, [.ref ms, .ref mp, .int (nI pz), .ref mt, .int (nI len), .ref md, .int (nI sp), .int q1, .int q2, .int q3, .int q4, .int q5, .int (nI fm)])), (ms, .inl (E.2.1, 265, .inl (fun zz => nI ((va_up M (109 + (3 * g)) s) zz))))] := hD
              refine lv_aload_n hx hb dX7_notes_72 rfl (lv_at hl 1 rfl) ?_
              refine va_get (D := E.1) (ci := 7) (v := .ref ms) (C := RX7) (T := TX7) (N := 13) hx hb hts iwX7_notes_X7_c_X7_notes hown hG.1 hP 0 rfl rfl 0 (by decide) (hts (.fieldLink RX7 7 "FrettedStringsModel" "st" "[I") (by decide +kernel)) (fun _ h9 => h9) rfl dX7_notes_73 ?_
              refine lv_bipush (v := nI 109) hx hb dX7_notes_76 (by decide) ?_
              refine lv_iconst (v := nI 3) hx hb dX7_notes_78 (by decide) ?_
              refine lv_iload_n hx hb dX7_notes_79 rfl (lv_at hl 0 rfl) ?_
              refine z_imul (a := 3) (b := g) hx hb dX7_notes_80 ?_
              refine z_iadd (a := 109) (b := 3 * g) hx hb dX7_notes_81 ?_
              refine lv_iconst (v := nI 1) hx hb dX7_notes_82 (by decide) ?_
              refine z_iadd (a := 109 + (3 * g)) (b := 1) hx hb dX7_notes_83 ?_
              refine lv_iload_n hx hb dX7_notes_84 rfl (lv_at hl 3 rfl) ?_
              refine z_iast (j := (109 + (3 * g)) + 1) (v := f) (g := va_up (va_up M (109 + (3 * g)) s) ((109 + (3 * g)) + 1) f) hx hb hG hP hD hS 1 rfl (by omega) (by decide) (rfl) dX7_notes_85 (fun HZ locsZ hP hD hS => ?_)
              have hP : va_P E.1 vwCl [(x, .inr (7, [.ref ms, .ref mp, .int (nI pz), .ref mt, .int (nI len), .ref md, .int (nI sp), .int q1, .int q2, .int q3, .int q4, .int q5, .int (nI fm)])), (ms, .inl (E.2.1, 265, .inl (fun zz => nI ((va_up (va_up M (109 + (3 * g)) s) ((109 + (3 * g)) + 1) f) zz))))] _ := hP
              have hD : va_D AZ [(x, .inr (7, [.ref ms, .ref mp, .int (nI pz), .ref mt, .int (nI len), .ref md, .int (nI sp), .int q1, .int q2, .int q3, .int q4, .int q5, .int (nI fm)])), (ms, .inl (E.2.1, 265, .inl (fun zz => nI ((va_up (va_up M (109 + (3 * g)) s) ((109 + (3 * g)) + 1) f) zz))))] := hD
              refine lv_aload_n hx hb dX7_notes_86 rfl (lv_at hl 1 rfl) ?_
              refine va_get (D := E.1) (ci := 7) (v := .ref ms) (C := RX7) (T := TX7) (N := 13) hx hb hts iwX7_notes_X7_c_X7_notes hown hG.1 hP 0 rfl rfl 0 (by decide) (hts (.fieldLink RX7 7 "FrettedStringsModel" "st" "[I") (by decide +kernel)) (fun _ h9 => h9) rfl dX7_notes_87 ?_
              refine lv_bipush (v := nI 109) hx hb dX7_notes_90 (by decide) ?_
              refine lv_iconst (v := nI 3) hx hb dX7_notes_92 (by decide) ?_
              refine lv_iload_n hx hb dX7_notes_93 rfl (lv_at hl 0 rfl) ?_
              refine z_imul (a := 3) (b := g) hx hb dX7_notes_94 ?_
              refine z_iadd (a := 109) (b := 3 * g) hx hb dX7_notes_95 ?_
              refine lv_iconst (v := nI 2) hx hb dX7_notes_96 (by decide) ?_
              refine z_iadd (a := 109 + (3 * g)) (b := 2) hx hb dX7_notes_97 ?_
              refine lv_iconst (v := nI 0) hx hb dX7_notes_98 (by decide) ?_
              refine z_iast (j := (109 + (3 * g)) + 2) (v := 0) (g := va_up (va_up (va_up M (109 + (3 * g)) s) ((109 + (3 * g)) + 1) f) ((109 + (3 * g)) + 2) 0) hx hb hG hP hD hS 1 rfl (by omega) (by decide) (rfl) dX7_notes_99 (fun HZ locsZ hP hD hS => ?_)
              have hP : va_P E.1 vwCl [(x, .inr (7, [.ref ms, .ref mp, .int (nI pz), .ref mt, .int (nI len), .ref md, .int (nI sp), .int q1, .int q2, .int q3, .int q4, .int q5, .int (nI fm)])), (ms, .inl (E.2.1, 265, .inl (fun zz => nI ((va_up (va_up (va_up M (109 + (3 * g)) s) ((109 + (3 * g)) + 1) f) ((109 + (3 * g)) + 2) 0) zz))))] _ := hP
              have hD : va_D AZ [(x, .inr (7, [.ref ms, .ref mp, .int (nI pz), .ref mt, .int (nI len), .ref md, .int (nI sp), .int q1, .int q2, .int q3, .int q4, .int q5, .int (nI fm)])), (ms, .inl (E.2.1, 265, .inl (fun zz => nI ((va_up (va_up (va_up M (109 + (3 * g)) s) ((109 + (3 * g)) + 1) f) ((109 + (3 * g)) + 2) 0) zz))))] := hD
              refine lv_aload_n hx hb dX7_notes_100 rfl (lv_at hl 1 rfl) ?_
              refine va_get (D := E.1) (ci := 7) (v := .ref ms) (C := RX7) (T := TX7) (N := 13) hx hb hts iwX7_notes_X7_c_X7_notes hown hG.1 hP 0 rfl rfl 0 (by decide) (hts (.fieldLink RX7 7 "FrettedStringsModel" "st" "[I") (by decide +kernel)) (fun _ h9 => h9) rfl dX7_notes_101 ?_
              refine lv_iconst (v := nI 3) hx hb dX7_notes_104 (by decide) ?_
              refine lv_dup2_11 hx hb dX7_notes_105 rfl rfl ?_
              refine z_iald (j := 3) (v := M 3) hx hb hG hP 1 rfl (by omega) (by decide) (by simp only [va_up]; rw [if_neg (by omega), if_neg (by omega), if_neg (by omega)]) dX7_notes_106 ?_
              refine lv_iconst (v := nI 1) hx hb dX7_notes_107 (by decide) ?_
              refine z_iadd (a := M 3) (b := 1) hx hb dX7_notes_108 ?_
              refine z_iast (j := 3) (v := (M 3) + 1) (g := va_up (va_up (va_up (va_up M (109 + (3 * g)) s) ((109 + (3 * g)) + 1) f) ((109 + (3 * g)) + 2) 0) 3 ((M 3) + 1)) hx hb hG hP hD hS 1 rfl (by omega) (by decide) (rfl) dX7_notes_109 (fun HZ locsZ hP hD hS => ?_)
              have hP : va_P E.1 vwCl [(x, .inr (7, [.ref ms, .ref mp, .int (nI pz), .ref mt, .int (nI len), .ref md, .int (nI sp), .int q1, .int q2, .int q3, .int q4, .int q5, .int (nI fm)])), (ms, .inl (E.2.1, 265, .inl (fun zz => nI ((va_up (va_up (va_up (va_up M (109 + (3 * g)) s) ((109 + (3 * g)) + 1) f) ((109 + (3 * g)) + 2) 0) 3 ((M 3) + 1)) zz))))] _ := hP
              have hD : va_D AZ [(x, .inr (7, [.ref ms, .ref mp, .int (nI pz), .ref mt, .int (nI len), .ref md, .int (nI sp), .int q1, .int q2, .int q3, .int q4, .int q5, .int (nI fm)])), (ms, .inl (E.2.1, 265, .inl (fun zz => nI ((va_up (va_up (va_up (va_up M (109 + (3 * g)) s) ((109 + (3 * g)) + 1) f) ((109 + (3 * g)) + 2) 0) 3 ((M 3) + 1)) zz))))] := hD
              refine lv_aload_n hx hb dX7_notes_110 rfl (lv_at hl 1 rfl) ?_
              refine va_get (D := E.1) (ci := 7) (v := .ref ms) (C := RX7) (T := TX7) (N := 13) hx hb hts iwX7_notes_X7_c_X7_notes hown hG.1 hP 0 rfl rfl 0 (by decide) (hts (.fieldLink RX7 7 "FrettedStringsModel" "st" "[I") (by decide +kernel)) (fun _ h9 => h9) rfl dX7_notes_111 ?_
              refine lv_bipush (v := nI 109) hx hb dX7_notes_114 (by decide) ?_
              refine lv_iconst (v := nI 3) hx hb dX7_notes_116 (by decide) ?_
              refine lv_iload_n hx hb dX7_notes_117 rfl (lv_at hl 0 rfl) ?_
              refine z_imul (a := 3) (b := g) hx hb dX7_notes_118 ?_
              refine z_iadd (a := 109) (b := 3 * g) hx hb dX7_notes_119 ?_
              refine lv_iconst (v := nI 2) hx hb dX7_notes_120 (by decide) ?_
              refine z_iadd (a := 109 + (3 * g)) (b := 2) hx hb dX7_notes_121 ?_
              refine lv_dup2_11 hx hb dX7_notes_122 rfl rfl ?_
              refine z_iald (j := (109 + (3 * g)) + 2) (v := 0) hx hb hG hP 1 rfl (by omega) (by decide) (by simp only [va_up]; rw [if_neg (by omega)]; exact if_pos trivial) dX7_notes_123 ?_
              refine lv_iconst (v := nI 1) hx hb dX7_notes_124 (by decide) ?_
              refine z_iadd (a := 0) (b := 1) hx hb dX7_notes_125 ?_
              refine z_iast (j := (109 + (3 * g)) + 2) (v := 0 + 1) (g := va_up (va_up (va_up (va_up (va_up M (109 + (3 * g)) s) ((109 + (3 * g)) + 1) f) ((109 + (3 * g)) + 2) 0) 3 ((M 3) + 1)) ((109 + (3 * g)) + 2) (0 + 1)) hx hb hG hP hD hS 1 rfl (by omega) (by decide) (rfl) dX7_notes_126 (fun HZ locsZ hP hD hS => ?_)
              have hP : va_P E.1 vwCl [(x, .inr (7, [.ref ms, .ref mp, .int (nI pz), .ref mt, .int (nI len), .ref md, .int (nI sp), .int q1, .int q2, .int q3, .int q4, .int q5, .int (nI fm)])), (ms, .inl (E.2.1, 265, .inl (fun zz => nI ((va_up (va_up (va_up (va_up (va_up M (109 + (3 * g)) s) ((109 + (3 * g)) + 1) f) ((109 + (3 * g)) + 2) 0) 3 ((M 3) + 1)) ((109 + (3 * g)) + 2) (0 + 1)) zz))))] _ := hP
              have hD : va_D AZ [(x, .inr (7, [.ref ms, .ref mp, .int (nI pz), .ref mt, .int (nI len), .ref md, .int (nI sp), .int q1, .int q2, .int q3, .int q4, .int q5, .int (nI fm)])), (ms, .inl (E.2.1, 265, .inl (fun zz => nI ((va_up (va_up (va_up (va_up (va_up M (109 + (3 * g)) s) ((109 + (3 * g)) + 1) f) ((109 + (3 * g)) + 2) 0) 3 ((M 3) + 1)) ((109 + (3 * g)) + 2) (0 + 1)) zz))))] := hD
              have e10 : (va_up (va_up (va_up (va_up (va_up M (109 + (3 * g)) s) ((109 + (3 * g)) + 1) f) ((109 + (3 * g)) + 2) 0) 3 ((M 3) + 1)) ((109 + (3 * g)) + 2) (0 + 1) : Nat → Nat) = ntM M s f := by first | rfl | (unfold ntM; rw [hk]; first | rw [if_pos (by omega)]; rfl | rw [if_neg (by omega)])
              have hP : va_P E.1 vwCl [(x, .inr (7, [.ref ms, .ref mp, .int (nI pz), .ref mt, .int (nI len), .ref md, .int (nI sp), .int q1, .int q2, .int q3, .int q4, .int q5, .int (nI fm)])), (ms, .inl (E.2.1, 265, .inl (fun zz => nI ((ntM M s f) zz))))] HZ := Eq.subst (motive := fun XX : Nat → Nat => va_P E.1 vwCl [(x, .inr (7, [.ref ms, .ref mp, .int (nI pz), .ref mt, .int (nI len), .ref md, .int (nI sp), .int q1, .int q2, .int q3, .int q4, .int q5, .int (nI fm)])), (ms, .inl (E.2.1, 265, .inl (fun zz => nI (XX zz))))] HZ) e10 hP
              have hD : va_D AZ [(x, .inr (7, [.ref ms, .ref mp, .int (nI pz), .ref mt, .int (nI len), .ref md, .int (nI sp), .int q1, .int q2, .int q3, .int q4, .int q5, .int (nI fm)])), (ms, .inl (E.2.1, 265, .inl (fun zz => nI ((ntM M s f) zz))))] := Eq.subst (motive := fun XX : Nat → Nat => va_D AZ [(x, .inr (7, [.ref ms, .ref mp, .int (nI pz), .ref mt, .int (nI len), .ref md, .int (nI sp), .int q1, .int q2, .int q3, .int q4, .int q5, .int (nI fm)])), (ms, .inl (E.2.1, 265, .inl (fun zz => nI (XX zz))))]) e10 hD
              exact hret _ _ _ _ _ hP hS dX7_notes_127 rfl rfl
          · -- 41 f
            refine z_iinc (k := 0) (d := 1) (lv' := [(3, .int (nI (g + 1))), (0, .ref x), (1, .int (nI s)), (2, .int (nI f))]) hx hb dX7_notes_44 (by decide) hl rfl (by decide) rfl (fun ls hl => ?_)
            refine lv_goto (tgt := 2) hx hb dX7_notes_47 (by decide) ?_
            exact ih2 (g + 1) (by omega) (by omega) (ntF_n hI (by omega) (by first | exact fun q => absurd q.1 (by assumption) | exact fun q => absurd q.2 (by assumption))) _ _ hP hD hS _ (lv_sub hl [0, 1, 2, 3] rfl)
  exact L2_1 ((M 3 - 0) + 1) 0 (Nat.lt_succ_self _) (by omega) (rfl) _ _ hP hD hS _ (lv_sub hl [0, 1, 2, 3] rfl)
theorem iwX7_wears_X7_c_X7_wears : ∀ w ∈ wsX70, w ∈ wsX7_wears := by decide +kernel
set_option maxHeartbeats 1000000 in
set_option maxRecDepth 100000 in
theorem c_X7_wears (l : Launch) (E : zE) (x ms mp mt md pz len sp fm f q : Nat) (q1 q2 q3 q4 q5 : Int32) (M : Nat → Nat) (hf1 : 1 ≤ f) (hf2 : f ≤ 12) (hq : q ≤ 1000) (hwb : M (9 + 3 * (f - 1) + 2) ≤ 900000000) (hhb : M (9 + 3 * (f - 1) + 1) ≤ 2000) (hper : 1 ≤ M 7 ∧ M 7 ≤ 1000000) : zV l yX7_wears wsX7_wears ({ frames := 1, cells := 0, slots := 0, locals := 23 }) E [.ref x, .int (nI f), .int (nI q)] [(x, .inr (7, [.ref ms, .ref mp, .int (nI pz), .ref mt, .int (nI len), .ref md, .int (nI sp), .int q1, .int q2, .int q3, .int q4, .int q5, .int (nI fm)])), (ms, .inl (E.2.1, 265, .inl (fun zz => nI (M zz))))] (fun w' => w' = [(x, .inr (7, [.ref ms, .ref mp, .int (nI pz), .ref mt, .int (nI len), .ref md, .int (nI sp), .int q1, .int q2, .int q3, .int q4, .int q5, .int (nI fm)])), (ms, .inl (E.2.1, 265, .inl (fun zz => nI ((wrA M f q) zz))))]) := by
  refine zV.start (own := RX7) rfl (by decide +kernel) rfl (Nat.le_of_ble_eq_true rfl) ?_
  intro pZ eZ sZ mZ argsZ belowZ methZ cZ QZ AZ hF hret HZ locsZ hP hD hS hG ls hl
  obtain ⟨hx, hb, hml, hown, hts⟩ := id hF
  have hl : lv_has ls 3 [(0, .ref x), (1, .int (nI f)), (2, .int (nI q))] := hl
  refine lv_aload_n hx hb dX7_wears_0 rfl (lv_at hl 0 rfl) ?_
  refine lv_iload_n hx hb dX7_wears_1 rfl (lv_at hl 1 rfl) ?_
  refine lv_iconst (v := nI 2) hx hb dX7_wears_2 (by decide) ?_
  refine lv_aload_n hx hb dX7_wears_3 rfl (lv_at hl 0 rfl) ?_
  refine lv_iload_n hx hb dX7_wears_4 rfl (lv_at hl 1 rfl) ?_
  refine lv_iconst (v := nI 2) hx hb dX7_wears_5 (by decide) ?_
  have hPc := zP_sub (w := [(x, .inr (7, [.ref ms, .ref mp, .int (nI pz), .ref mt, .int (nI len), .ref md, .int (nI sp), .int q1, .int q2, .int q3, .int q4, .int q5, .int (nI fm)])), (ms, .inl (E.2.1, 265, .inl (fun zz => nI (M zz))))]) hP [0, 1] rfl
  refine z_rd (fun _ h => h) (va_runV (As := [.int (nI f), .int (nI 2)]) (rest := [.int (nI 2), .int (nI f), .ref x]) hF (c_X7_on l E x ms mp mt md pz len sp fm f 2 q1 q2 q3 q4 q5 M (by first | assumption | omega) (by first | assumption | omega) (by first | assumption | omega)) (cwV 2 hts gX7_wears_X7_on rfl rfl rfl (by decide +kernel) ⟨Nat.le_of_ble_eq_true rfl, Nat.le_of_ble_eq_true rfl⟩) (z_preRV (va_recv hG.1 hP (ci := 7) (q0 := 0) rfl rfl) hPc hG) rfl rfl hl.1 rfl (lv_room (Nat.le_of_ble_eq_true rfl)) dX7_wears_6 ⟨Nat.zero_le _, Nat.zero_le _⟩) (fun r1 hr1 => ?_)
  subst hr1
  refine lv_iload_n hx hb dX7_wears_9 rfl (lv_at hl 2 rfl) ?_
  refine z_iadd (a := M (9 + 3 * (f - 1) + 2)) (b := q) hx hb dX7_wears_10 ?_
  have hPc := zP_sub (w := [(x, .inr (7, [.ref ms, .ref mp, .int (nI pz), .ref mt, .int (nI len), .ref md, .int (nI sp), .int q1, .int q2, .int q3, .int q4, .int q5, .int (nI fm)])), (ms, .inl (E.2.1, 265, .inl (fun zz => nI (M zz))))]) hP [0, 1] rfl
  have hDc := zD_sub (w := [(x, .inr (7, [.ref ms, .ref mp, .int (nI pz), .ref mt, .int (nI len), .ref md, .int (nI sp), .int q1, .int q2, .int q3, .int q4, .int q5, .int (nI fm)])), (ms, .inl (E.2.1, 265, .inl (fun zz => nI (M zz))))]) hD [0, 1] (by decide) rfl
  refine z_vd [0, 1] (va_runV (As := [.int (nI f), .int (nI 2), .int (nI ((M (9 + 3 * (f - 1) + 2)) + q))]) (rest := []) hF (c_X7_lays l E x ms mp mt md pz len sp fm f 2 ((M (9 + 3 * (f - 1) + 2)) + q) q1 q2 q3 q4 q5 M (by first | assumption | omega) (by first | assumption | omega) (by first | assumption | omega)) (cwV 3 hts gX7_wears_X7_lays rfl rfl rfl (by decide +kernel) ⟨Nat.le_of_ble_eq_true rfl, Nat.le_of_ble_eq_true rfl⟩) (z_preMV (va_recv hG.1 hP (ci := 7) (q0 := 0) rfl rfl) hPc hDc hG) rfl rfl hl.1 rfl (lv_room (Nat.le_of_ble_eq_true rfl)) dX7_wears_11 ⟨Nat.zero_le _, Nat.zero_le _⟩) hP hD hS rfl (fun w' HZ locsZ hw hP hD hS => ?_)
  subst hw
  have hP : va_P E.1 vwCl [(x, .inr (7, [.ref ms, .ref mp, .int (nI pz), .ref mt, .int (nI len), .ref md, .int (nI sp), .int q1, .int q2, .int q3, .int q4, .int q5, .int (nI fm)])), (ms, .inl (E.2.1, 265, .inl (fun zz => nI ((va_up M (9 + 3 * (f - 1) + 2) ((M (9 + 3 * (f - 1) + 2)) + q)) zz))))] _ := hP
  have hD : va_D AZ [(x, .inr (7, [.ref ms, .ref mp, .int (nI pz), .ref mt, .int (nI len), .ref md, .int (nI sp), .int q1, .int q2, .int q3, .int q4, .int q5, .int (nI fm)])), (ms, .inl (E.2.1, 265, .inl (fun zz => nI ((va_up M (9 + 3 * (f - 1) + 2) ((M (9 + 3 * (f - 1) + 2)) + q)) zz))))] := hD
  have L14_2 : ∀ (fuelZ : Nat) (i : Nat), M (9 + 3 * (f - 1) + 1) - i < fuelZ → (i * M 7 ≤ M (9 + 3 * (f - 1) + 2) + q) → (i ≤ M (9 + 3 * (f - 1) + 1)) → ∀ (HZ : Heap) (locsZ : List Loc), va_P E.1 vwCl [(x, .inr (7, [.ref ms, .ref mp, .int (nI pz), .ref mt, .int (nI len), .ref md, .int (nI sp), .int q1, .int q2, .int q3, .int q4, .int q5, .int (nI fm)])), (ms, .inl (E.2.1, 265, .inl (fun zz => nI ((wrM M f (M (9 + 3 * (f - 1) + 2) + q - i * M 7) (M (9 + 3 * (f - 1) + 1) - i) (M 2 + i)) zz))))] HZ → va_D AZ [(x, .inr (7, [.ref ms, .ref mp, .int (nI pz), .ref mt, .int (nI len), .ref md, .int (nI sp), .int q1, .int q2, .int q3, .int q4, .int q5, .int (nI fm)])), (ms, .inl (E.2.1, 265, .inl (fun zz => nI ((wrM M f (M (9 + 3 * (f - 1) + 2) + q - i * M 7) (M (9 + 3 * (f - 1) + 1) - i) (M 2 + i)) zz))))] → va_S AZ sZ.heap HZ locsZ → ∀ ls : Array Slot, lv_has ls 3 [(0, .ref x), (1, .int (nI f)), (2, .int (nI q))] → W pZ l eZ ({ frames := 1, cells := 0, slots := 0, locals := 23 }) sZ mZ argsZ belowZ methZ cZ HZ locsZ 0 0 QZ (F0 mZ 14 ls []) := by
    intro fuelZ
    induction fuelZ with
    | zero => intro i hm; exact absurd hm (Nat.not_lt_zero _)
    | succ fuelZ ih14 =>
      intro i hm i1 i2 HZ locsZ hP hD hS ls hl
      refine lv_aload_n hx hb dX7_wears_14 rfl (lv_at hl 0 rfl) ?_
      refine lv_iload_n hx hb dX7_wears_15 rfl (lv_at hl 1 rfl) ?_
      refine lv_iconst (v := nI 2) hx hb dX7_wears_16 (by decide) ?_
      have hPc := zP_sub (w := [(x, .inr (7, [.ref ms, .ref mp, .int (nI pz), .ref mt, .int (nI len), .ref md, .int (nI sp), .int q1, .int q2, .int q3, .int q4, .int q5, .int (nI fm)])), (ms, .inl (E.2.1, 265, .inl (fun zz => nI ((wrM M f (M (9 + 3 * (f - 1) + 2) + q - i * M 7) (M (9 + 3 * (f - 1) + 1) - i) (M 2 + i)) zz))))]) hP [0, 1] rfl
      refine z_rd (fun _ h => h) (va_runV (As := [.int (nI f), .int (nI 2)]) (rest := []) hF (c_X7_on l E x ms mp mt md pz len sp fm f 2 q1 q2 q3 q4 q5 (wrM M f (M (9 + 3 * (f - 1) + 2) + q - i * M 7) (M (9 + 3 * (f - 1) + 1) - i) (M 2 + i)) (by first | assumption | omega) (by first | assumption | omega) (by first | assumption | omega)) (cwV 2 hts gX7_wears_X7_on rfl rfl rfl (by decide +kernel) ⟨Nat.le_of_ble_eq_true rfl, Nat.le_of_ble_eq_true rfl⟩) (z_preRV (va_recv hG.1 hP (ci := 7) (q0 := 0) rfl rfl) hPc hG) rfl rfl hl.1 rfl (lv_room (Nat.le_of_ble_eq_true rfl)) dX7_wears_17 ⟨Nat.zero_le _, Nat.zero_le _⟩) (fun r3 hr3 => ?_)
      subst hr3
      have e4 : (wrM M f (M (9 + 3 * (f - 1) + 2) + q - i * M 7) (M (9 + 3 * (f - 1) + 1) - i) (M 2 + i)) (9 + 3 * (f - 1) + 2) = M (9 + 3 * (f - 1) + 2) + q - i * M 7 := by exact wrM_w _ _ _ _ _
      rw [e4]
      refine lv_aload_n hx hb dX7_wears_20 rfl (lv_at hl 0 rfl) ?_
      refine lv_iconst (v := nI 3) hx hb dX7_wears_21 (by decide) ?_
      have hPc := zP_sub (w := [(x, .inr (7, [.ref ms, .ref mp, .int (nI pz), .ref mt, .int (nI len), .ref md, .int (nI sp), .int q1, .int q2, .int q3, .int q4, .int q5, .int (nI fm)])), (ms, .inl (E.2.1, 265, .inl (fun zz => nI ((wrM M f (M (9 + 3 * (f - 1) + 2) + q - i * M 7) (M (9 + 3 * (f - 1) + 1) - i) (M 2 + i)) zz))))]) hP [0, 1] rfl
      refine z_rd (fun _ h => h) (va_runV (As := [.int (nI 3)]) (rest := [.int (nI (M (9 + 3 * (f - 1) + 2) + q - i * M 7))]) hF (c_X7_setting l E x ms mp mt md pz len sp fm 3 q1 q2 q3 q4 q5 (wrM M f (M (9 + 3 * (f - 1) + 2) + q - i * M 7) (M (9 + 3 * (f - 1) + 1) - i) (M 2 + i)) (by first | assumption | omega)) (cwV 1 hts gX7_wears_X7_setting rfl rfl rfl (by decide +kernel) ⟨Nat.le_of_ble_eq_true rfl, Nat.le_of_ble_eq_true rfl⟩) (z_preRV (va_recv hG.1 hP (ci := 7) (q0 := 0) rfl rfl) hPc hG) rfl rfl hl.1 rfl (lv_room (Nat.le_of_ble_eq_true rfl)) dX7_wears_22 ⟨Nat.zero_le _, Nat.zero_le _⟩) (fun r5 hr5 => ?_)
      subst hr5
      have e6 : (wrM M f (M (9 + 3 * (f - 1) + 2) + q - i * M 7) (M (9 + 3 * (f - 1) + 1) - i) (M 2 + i)) 7 = M 7 := by exact wrM_7 _ _ _ _ _
      rw [e6]
      refine z_icmp_lt (a := M (9 + 3 * (f - 1) + 2) + q - i * M 7) (b := M 7) (tgt := 82) hx hb dX7_wears_25 (by decide) (by omega) (by omega) (fun c7 => ?_) (fun c7 => ?_)
      · -- 25 t
        have hend : wrK M f q = i := by unfold wrK wlost; rw [if_neg (by omega)]; exact (wr_end hper.1 i1 i2 (by omega)).symm
        have e8 : (wrM M f (M (9 + 3 * (f - 1) + 2) + q - i * M 7) (M (9 + 3 * (f - 1) + 1) - i) (M 2 + i) : Nat → Nat) = wrA M f q := by first | rfl | (unfold wrA; rw [hend])
        have hP : va_P E.1 vwCl [(x, .inr (7, [.ref ms, .ref mp, .int (nI pz), .ref mt, .int (nI len), .ref md, .int (nI sp), .int q1, .int q2, .int q3, .int q4, .int q5, .int (nI fm)])), (ms, .inl (E.2.1, 265, .inl (fun zz => nI ((wrA M f q) zz))))] HZ := Eq.subst (motive := fun XX : Nat → Nat => va_P E.1 vwCl [(x, .inr (7, [.ref ms, .ref mp, .int (nI pz), .ref mt, .int (nI len), .ref md, .int (nI sp), .int q1, .int q2, .int q3, .int q4, .int q5, .int (nI fm)])), (ms, .inl (E.2.1, 265, .inl (fun zz => nI (XX zz))))] HZ) e8 hP
        have hD : va_D AZ [(x, .inr (7, [.ref ms, .ref mp, .int (nI pz), .ref mt, .int (nI len), .ref md, .int (nI sp), .int q1, .int q2, .int q3, .int q4, .int q5, .int (nI fm)])), (ms, .inl (E.2.1, 265, .inl (fun zz => nI ((wrA M f q) zz))))] := Eq.subst (motive := fun XX : Nat → Nat => va_D AZ [(x, .inr (7, [.ref ms, .ref mp, .int (nI pz), .ref mt, .int (nI len), .ref md, .int (nI sp), .int q1, .int q2, .int q3, .int q4, .int q5, .int (nI fm)])), (ms, .inl (E.2.1, 265, .inl (fun zz => nI (XX zz))))]) e8 hD
        exact hret _ _ _ _ _ hP hS dX7_wears_82 rfl rfl
      · -- 25 f
        refine lv_aload_n hx hb dX7_wears_28 rfl (lv_at hl 0 rfl) ?_
        refine lv_iload_n hx hb dX7_wears_29 rfl (lv_at hl 1 rfl) ?_
        refine lv_iconst (v := nI 1) hx hb dX7_wears_30 (by decide) ?_
        have hPc := zP_sub (w := [(x, .inr (7, [.ref ms, .ref mp, .int (nI pz), .ref mt, .int (nI len), .ref md, .int (nI sp), .int q1, .int q2, .int q3, .int q4, .int q5, .int (nI fm)])), (ms, .inl (E.2.1, 265, .inl (fun zz => nI ((wrM M f (M (9 + 3 * (f - 1) + 2) + q - i * M 7) (M (9 + 3 * (f - 1) + 1) - i) (M 2 + i)) zz))))]) hP [0, 1] rfl
        refine z_rd (fun _ h => h) (va_runV (As := [.int (nI f), .int (nI 1)]) (rest := []) hF (c_X7_on l E x ms mp mt md pz len sp fm f 1 q1 q2 q3 q4 q5 (wrM M f (M (9 + 3 * (f - 1) + 2) + q - i * M 7) (M (9 + 3 * (f - 1) + 1) - i) (M 2 + i)) (by first | assumption | omega) (by first | assumption | omega) (by first | assumption | omega)) (cwV 2 hts gX7_wears_X7_on rfl rfl rfl (by decide +kernel) ⟨Nat.le_of_ble_eq_true rfl, Nat.le_of_ble_eq_true rfl⟩) (z_preRV (va_recv hG.1 hP (ci := 7) (q0 := 0) rfl rfl) hPc hG) rfl rfl hl.1 rfl (lv_room (Nat.le_of_ble_eq_true rfl)) dX7_wears_31 ⟨Nat.zero_le _, Nat.zero_le _⟩) (fun r9 hr9 => ?_)
        subst hr9
        have e10 : (wrM M f (M (9 + 3 * (f - 1) + 2) + q - i * M 7) (M (9 + 3 * (f - 1) + 1) - i) (M 2 + i)) (9 + 3 * (f - 1) + 1) = M (9 + 3 * (f - 1) + 1) - i := by exact wrM_h _ _ _ _ _
        rw [e10]
        refine z_if_le (a := M (9 + 3 * (f - 1) + 1) - i) (tgt := 82) hx hb dX7_wears_34 (by decide) (by omega) (fun c11 => ?_) (fun c11 => ?_)
        · -- 34 t
          have hend : wrK M f q = i := by unfold wrK wlost; rw [if_neg (by omega)]; exact (wr_end hper.1 i1 i2 (by omega)).symm
          have e12 : (wrM M f (M (9 + 3 * (f - 1) + 2) + q - i * M 7) (M (9 + 3 * (f - 1) + 1) - i) (M 2 + i) : Nat → Nat) = wrA M f q := by first | rfl | (unfold wrA; rw [hend])
          have hP : va_P E.1 vwCl [(x, .inr (7, [.ref ms, .ref mp, .int (nI pz), .ref mt, .int (nI len), .ref md, .int (nI sp), .int q1, .int q2, .int q3, .int q4, .int q5, .int (nI fm)])), (ms, .inl (E.2.1, 265, .inl (fun zz => nI ((wrA M f q) zz))))] HZ := Eq.subst (motive := fun XX : Nat → Nat => va_P E.1 vwCl [(x, .inr (7, [.ref ms, .ref mp, .int (nI pz), .ref mt, .int (nI len), .ref md, .int (nI sp), .int q1, .int q2, .int q3, .int q4, .int q5, .int (nI fm)])), (ms, .inl (E.2.1, 265, .inl (fun zz => nI (XX zz))))] HZ) e12 hP
          have hD : va_D AZ [(x, .inr (7, [.ref ms, .ref mp, .int (nI pz), .ref mt, .int (nI len), .ref md, .int (nI sp), .int q1, .int q2, .int q3, .int q4, .int q5, .int (nI fm)])), (ms, .inl (E.2.1, 265, .inl (fun zz => nI ((wrA M f q) zz))))] := Eq.subst (motive := fun XX : Nat → Nat => va_D AZ [(x, .inr (7, [.ref ms, .ref mp, .int (nI pz), .ref mt, .int (nI len), .ref md, .int (nI sp), .int q1, .int q2, .int q3, .int q4, .int q5, .int (nI fm)])), (ms, .inl (E.2.1, 265, .inl (fun zz => nI (XX zz))))]) e12 hD
          exact hret _ _ _ _ _ hP hS dX7_wears_82 rfl rfl
        · -- 34 f
          refine lv_aload_n hx hb dX7_wears_37 rfl (lv_at hl 0 rfl) ?_
          refine lv_iload_n hx hb dX7_wears_38 rfl (lv_at hl 1 rfl) ?_
          refine lv_iconst (v := nI 2) hx hb dX7_wears_39 (by decide) ?_
          refine lv_aload_n hx hb dX7_wears_40 rfl (lv_at hl 0 rfl) ?_
          refine lv_iload_n hx hb dX7_wears_41 rfl (lv_at hl 1 rfl) ?_
          refine lv_iconst (v := nI 2) hx hb dX7_wears_42 (by decide) ?_
          have hPc := zP_sub (w := [(x, .inr (7, [.ref ms, .ref mp, .int (nI pz), .ref mt, .int (nI len), .ref md, .int (nI sp), .int q1, .int q2, .int q3, .int q4, .int q5, .int (nI fm)])), (ms, .inl (E.2.1, 265, .inl (fun zz => nI ((wrM M f (M (9 + 3 * (f - 1) + 2) + q - i * M 7) (M (9 + 3 * (f - 1) + 1) - i) (M 2 + i)) zz))))]) hP [0, 1] rfl
          refine z_rd (fun _ h => h) (va_runV (As := [.int (nI f), .int (nI 2)]) (rest := [.int (nI 2), .int (nI f), .ref x]) hF (c_X7_on l E x ms mp mt md pz len sp fm f 2 q1 q2 q3 q4 q5 (wrM M f (M (9 + 3 * (f - 1) + 2) + q - i * M 7) (M (9 + 3 * (f - 1) + 1) - i) (M 2 + i)) (by first | assumption | omega) (by first | assumption | omega) (by first | assumption | omega)) (cwV 2 hts gX7_wears_X7_on rfl rfl rfl (by decide +kernel) ⟨Nat.le_of_ble_eq_true rfl, Nat.le_of_ble_eq_true rfl⟩) (z_preRV (va_recv hG.1 hP (ci := 7) (q0 := 0) rfl rfl) hPc hG) rfl rfl hl.1 rfl (lv_room (Nat.le_of_ble_eq_true rfl)) dX7_wears_43 ⟨Nat.zero_le _, Nat.zero_le _⟩) (fun r13 hr13 => ?_)
          subst hr13
          have e14 : (wrM M f (M (9 + 3 * (f - 1) + 2) + q - i * M 7) (M (9 + 3 * (f - 1) + 1) - i) (M 2 + i)) (9 + 3 * (f - 1) + 2) = M (9 + 3 * (f - 1) + 2) + q - i * M 7 := by exact wrM_w _ _ _ _ _
          rw [e14]
          refine lv_aload_n hx hb dX7_wears_46 rfl (lv_at hl 0 rfl) ?_
          refine lv_iconst (v := nI 3) hx hb dX7_wears_47 (by decide) ?_
          have hPc := zP_sub (w := [(x, .inr (7, [.ref ms, .ref mp, .int (nI pz), .ref mt, .int (nI len), .ref md, .int (nI sp), .int q1, .int q2, .int q3, .int q4, .int q5, .int (nI fm)])), (ms, .inl (E.2.1, 265, .inl (fun zz => nI ((wrM M f (M (9 + 3 * (f - 1) + 2) + q - i * M 7) (M (9 + 3 * (f - 1) + 1) - i) (M 2 + i)) zz))))]) hP [0, 1] rfl
          refine z_rd (fun _ h => h) (va_runV (As := [.int (nI 3)]) (rest := [.int (nI (M (9 + 3 * (f - 1) + 2) + q - i * M 7)), .int (nI 2), .int (nI f), .ref x]) hF (c_X7_setting l E x ms mp mt md pz len sp fm 3 q1 q2 q3 q4 q5 (wrM M f (M (9 + 3 * (f - 1) + 2) + q - i * M 7) (M (9 + 3 * (f - 1) + 1) - i) (M 2 + i)) (by first | assumption | omega)) (cwV 1 hts gX7_wears_X7_setting rfl rfl rfl (by decide +kernel) ⟨Nat.le_of_ble_eq_true rfl, Nat.le_of_ble_eq_true rfl⟩) (z_preRV (va_recv hG.1 hP (ci := 7) (q0 := 0) rfl rfl) hPc hG) rfl rfl hl.1 rfl (lv_room (Nat.le_of_ble_eq_true rfl)) dX7_wears_48 ⟨Nat.zero_le _, Nat.zero_le _⟩) (fun r15 hr15 => ?_)
          subst hr15
          have e16 : (wrM M f (M (9 + 3 * (f - 1) + 2) + q - i * M 7) (M (9 + 3 * (f - 1) + 1) - i) (M 2 + i)) 7 = M 7 := by exact wrM_7 _ _ _ _ _
          rw [e16]
          refine z_isub (a := M (9 + 3 * (f - 1) + 2) + q - i * M 7) (b := M 7) hx hb dX7_wears_51 (by omega) ?_
          have hPc := zP_sub (w := [(x, .inr (7, [.ref ms, .ref mp, .int (nI pz), .ref mt, .int (nI len), .ref md, .int (nI sp), .int q1, .int q2, .int q3, .int q4, .int q5, .int (nI fm)])), (ms, .inl (E.2.1, 265, .inl (fun zz => nI ((wrM M f (M (9 + 3 * (f - 1) + 2) + q - i * M 7) (M (9 + 3 * (f - 1) + 1) - i) (M 2 + i)) zz))))]) hP [0, 1] rfl
          have hDc := zD_sub (w := [(x, .inr (7, [.ref ms, .ref mp, .int (nI pz), .ref mt, .int (nI len), .ref md, .int (nI sp), .int q1, .int q2, .int q3, .int q4, .int q5, .int (nI fm)])), (ms, .inl (E.2.1, 265, .inl (fun zz => nI ((wrM M f (M (9 + 3 * (f - 1) + 2) + q - i * M 7) (M (9 + 3 * (f - 1) + 1) - i) (M 2 + i)) zz))))]) hD [0, 1] (by decide) rfl
          refine z_vd [0, 1] (va_runV (As := [.int (nI f), .int (nI 2), .int (nI ((M (9 + 3 * (f - 1) + 2) + q - i * M 7) - (M 7)))]) (rest := []) hF (c_X7_lays l E x ms mp mt md pz len sp fm f 2 ((M (9 + 3 * (f - 1) + 2) + q - i * M 7) - (M 7)) q1 q2 q3 q4 q5 (wrM M f (M (9 + 3 * (f - 1) + 2) + q - i * M 7) (M (9 + 3 * (f - 1) + 1) - i) (M 2 + i)) (by first | assumption | omega) (by first | assumption | omega) (by first | assumption | omega)) (cwV 3 hts gX7_wears_X7_lays rfl rfl rfl (by decide +kernel) ⟨Nat.le_of_ble_eq_true rfl, Nat.le_of_ble_eq_true rfl⟩) (z_preMV (va_recv hG.1 hP (ci := 7) (q0 := 0) rfl rfl) hPc hDc hG) rfl rfl hl.1 rfl (lv_room (Nat.le_of_ble_eq_true rfl)) dX7_wears_52 ⟨Nat.zero_le _, Nat.zero_le _⟩) hP hD hS rfl (fun w' HZ locsZ hw hP hD hS => ?_)
          subst hw
          have hP : va_P E.1 vwCl [(x, .inr (7, [.ref ms, .ref mp, .int (nI pz), .ref mt, .int (nI len), .ref md, .int (nI sp), .int q1, .int q2, .int q3, .int q4, .int q5, .int (nI fm)])), (ms, .inl (E.2.1, 265, .inl (fun zz => nI ((va_up (wrM M f (M (9 + 3 * (f - 1) + 2) + q - i * M 7) (M (9 + 3 * (f - 1) + 1) - i) (M 2 + i)) (9 + 3 * (f - 1) + 2) ((M (9 + 3 * (f - 1) + 2) + q - i * M 7) - (M 7))) zz))))] _ := hP
          have hD : va_D AZ [(x, .inr (7, [.ref ms, .ref mp, .int (nI pz), .ref mt, .int (nI len), .ref md, .int (nI sp), .int q1, .int q2, .int q3, .int q4, .int q5, .int (nI fm)])), (ms, .inl (E.2.1, 265, .inl (fun zz => nI ((va_up (wrM M f (M (9 + 3 * (f - 1) + 2) + q - i * M 7) (M (9 + 3 * (f - 1) + 1) - i) (M 2 + i)) (9 + 3 * (f - 1) + 2) ((M (9 + 3 * (f - 1) + 2) + q - i * M 7) - (M 7))) zz))))] := hD
          refine lv_aload_n hx hb dX7_wears_55 rfl (lv_at hl 0 rfl) ?_
          refine lv_iload_n hx hb dX7_wears_56 rfl (lv_at hl 1 rfl) ?_
          refine lv_iconst (v := nI 1) hx hb dX7_wears_57 (by decide) ?_
          refine lv_aload_n hx hb dX7_wears_58 rfl (lv_at hl 0 rfl) ?_
          refine lv_iload_n hx hb dX7_wears_59 rfl (lv_at hl 1 rfl) ?_
          refine lv_iconst (v := nI 1) hx hb dX7_wears_60 (by decide) ?_
          have hPc := zP_sub (w := [(x, .inr (7, [.ref ms, .ref mp, .int (nI pz), .ref mt, .int (nI len), .ref md, .int (nI sp), .int q1, .int q2, .int q3, .int q4, .int q5, .int (nI fm)])), (ms, .inl (E.2.1, 265, .inl (fun zz => nI ((va_up (wrM M f (M (9 + 3 * (f - 1) + 2) + q - i * M 7) (M (9 + 3 * (f - 1) + 1) - i) (M 2 + i)) (9 + 3 * (f - 1) + 2) ((M (9 + 3 * (f - 1) + 2) + q - i * M 7) - (M 7))) zz))))]) hP [0, 1] rfl
          refine z_rd (fun _ h => h) (va_runV (As := [.int (nI f), .int (nI 1)]) (rest := [.int (nI 1), .int (nI f), .ref x]) hF (c_X7_on l E x ms mp mt md pz len sp fm f 1 q1 q2 q3 q4 q5 (va_up (wrM M f (M (9 + 3 * (f - 1) + 2) + q - i * M 7) (M (9 + 3 * (f - 1) + 1) - i) (M 2 + i)) (9 + 3 * (f - 1) + 2) ((M (9 + 3 * (f - 1) + 2) + q - i * M 7) - (M 7))) (by first | assumption | omega) (by first | assumption | omega) (by first | assumption | omega)) (cwV 2 hts gX7_wears_X7_on rfl rfl rfl (by decide +kernel) ⟨Nat.le_of_ble_eq_true rfl, Nat.le_of_ble_eq_true rfl⟩) (z_preRV (va_recv hG.1 hP (ci := 7) (q0 := 0) rfl rfl) hPc hG) rfl rfl hl.1 rfl (lv_room (Nat.le_of_ble_eq_true rfl)) dX7_wears_61 ⟨Nat.zero_le _, Nat.zero_le _⟩) (fun r17 hr17 => ?_)
          subst hr17
          have e18 : (va_up (wrM M f (M (9 + 3 * (f - 1) + 2) + q - i * M 7) (M (9 + 3 * (f - 1) + 1) - i) (M 2 + i)) (9 + 3 * (f - 1) + 2) ((M (9 + 3 * (f - 1) + 2) + q - i * M 7) - (M 7))) (9 + 3 * (f - 1) + 1) = M (9 + 3 * (f - 1) + 1) - i := by simp only [va_up]; rw [if_neg (by omega)]; exact wrM_h _ _ _ _ _
          rw [e18]
          refine lv_iconst (v := nI 1) hx hb dX7_wears_64 (by decide) ?_
          refine z_isub (a := M (9 + 3 * (f - 1) + 1) - i) (b := 1) hx hb dX7_wears_65 (by omega) ?_
          have hPc := zP_sub (w := [(x, .inr (7, [.ref ms, .ref mp, .int (nI pz), .ref mt, .int (nI len), .ref md, .int (nI sp), .int q1, .int q2, .int q3, .int q4, .int q5, .int (nI fm)])), (ms, .inl (E.2.1, 265, .inl (fun zz => nI ((va_up (wrM M f (M (9 + 3 * (f - 1) + 2) + q - i * M 7) (M (9 + 3 * (f - 1) + 1) - i) (M 2 + i)) (9 + 3 * (f - 1) + 2) ((M (9 + 3 * (f - 1) + 2) + q - i * M 7) - (M 7))) zz))))]) hP [0, 1] rfl
          have hDc := zD_sub (w := [(x, .inr (7, [.ref ms, .ref mp, .int (nI pz), .ref mt, .int (nI len), .ref md, .int (nI sp), .int q1, .int q2, .int q3, .int q4, .int q5, .int (nI fm)])), (ms, .inl (E.2.1, 265, .inl (fun zz => nI ((va_up (wrM M f (M (9 + 3 * (f - 1) + 2) + q - i * M 7) (M (9 + 3 * (f - 1) + 1) - i) (M 2 + i)) (9 + 3 * (f - 1) + 2) ((M (9 + 3 * (f - 1) + 2) + q - i * M 7) - (M 7))) zz))))]) hD [0, 1] (by decide) rfl
          refine z_vd [0, 1] (va_runV (As := [.int (nI f), .int (nI 1), .int (nI ((M (9 + 3 * (f - 1) + 1) - i) - 1))]) (rest := []) hF (c_X7_lays l E x ms mp mt md pz len sp fm f 1 ((M (9 + 3 * (f - 1) + 1) - i) - 1) q1 q2 q3 q4 q5 (va_up (wrM M f (M (9 + 3 * (f - 1) + 2) + q - i * M 7) (M (9 + 3 * (f - 1) + 1) - i) (M 2 + i)) (9 + 3 * (f - 1) + 2) ((M (9 + 3 * (f - 1) + 2) + q - i * M 7) - (M 7))) (by first | assumption | omega) (by first | assumption | omega) (by first | assumption | omega)) (cwV 3 hts gX7_wears_X7_lays rfl rfl rfl (by decide +kernel) ⟨Nat.le_of_ble_eq_true rfl, Nat.le_of_ble_eq_true rfl⟩) (z_preMV (va_recv hG.1 hP (ci := 7) (q0 := 0) rfl rfl) hPc hDc hG) rfl rfl hl.1 rfl (lv_room (Nat.le_of_ble_eq_true rfl)) dX7_wears_66 ⟨Nat.zero_le _, Nat.zero_le _⟩) hP hD hS rfl (fun w' HZ locsZ hw hP hD hS => ?_)
          subst hw
          have hP : va_P E.1 vwCl [(x, .inr (7, [.ref ms, .ref mp, .int (nI pz), .ref mt, .int (nI len), .ref md, .int (nI sp), .int q1, .int q2, .int q3, .int q4, .int q5, .int (nI fm)])), (ms, .inl (E.2.1, 265, .inl (fun zz => nI ((va_up (va_up (wrM M f (M (9 + 3 * (f - 1) + 2) + q - i * M 7) (M (9 + 3 * (f - 1) + 1) - i) (M 2 + i)) (9 + 3 * (f - 1) + 2) ((M (9 + 3 * (f - 1) + 2) + q - i * M 7) - (M 7))) (9 + 3 * (f - 1) + 1) ((M (9 + 3 * (f - 1) + 1) - i) - 1)) zz))))] _ := hP
          have hD : va_D AZ [(x, .inr (7, [.ref ms, .ref mp, .int (nI pz), .ref mt, .int (nI len), .ref md, .int (nI sp), .int q1, .int q2, .int q3, .int q4, .int q5, .int (nI fm)])), (ms, .inl (E.2.1, 265, .inl (fun zz => nI ((va_up (va_up (wrM M f (M (9 + 3 * (f - 1) + 2) + q - i * M 7) (M (9 + 3 * (f - 1) + 1) - i) (M 2 + i)) (9 + 3 * (f - 1) + 2) ((M (9 + 3 * (f - 1) + 2) + q - i * M 7) - (M 7))) (9 + 3 * (f - 1) + 1) ((M (9 + 3 * (f - 1) + 1) - i) - 1)) zz))))] := hD
          refine lv_aload_n hx hb dX7_wears_69 rfl (lv_at hl 0 rfl) ?_
          refine va_get (D := E.1) (ci := 7) (v := .ref ms) (C := RX7) (T := TX7) (N := 13) hx hb hts iwX7_wears_X7_c_X7_wears hown hG.1 hP 0 rfl rfl 0 (by decide) (hts (.fieldLink RX7 7 "FrettedStringsModel" "st" "[I") (by decide +kernel)) (fun _ h9 => h9) rfl dX7_wears_70 ?_
          refine lv_iconst (v := nI 2) hx hb dX7_wears_73 (by decide) ?_
          refine lv_dup2_11 hx hb dX7_wears_74 rfl rfl ?_
          refine z_iald (j := 2) (v := M 2 + i) hx hb hG hP 1 rfl (by omega) (by decide) (by simp only [va_up]; rw [if_neg (by omega), if_neg (by omega)]; exact wrM_2 _ _ _ _ _) dX7_wears_75 ?_
          refine lv_iconst (v := nI 1) hx hb dX7_wears_76 (by decide) ?_
          refine z_iadd (a := M 2 + i) (b := 1) hx hb dX7_wears_77 ?_
          refine z_iast (j := 2) (v := (M 2 + i) + 1) (g := va_up (va_up (va_up (wrM M f (M (9 + 3 * (f - 1) + 2) + q - i * M 7) (M (9 + 3 * (f - 1) + 1) - i) (M 2 + i)) (9 + 3 * (f - 1) + 2) ((M (9 + 3 * (f - 1) + 2) + q - i * M 7) - (M 7))) (9 + 3 * (f - 1) + 1) ((M (9 + 3 * (f - 1) + 1) - i) - 1)) 2 ((M 2 + i) + 1)) hx hb hG hP hD hS 1 rfl (by omega) (by decide) (rfl) dX7_wears_78 (fun HZ locsZ hP hD hS => ?_)
          have hP : va_P E.1 vwCl [(x, .inr (7, [.ref ms, .ref mp, .int (nI pz), .ref mt, .int (nI len), .ref md, .int (nI sp), .int q1, .int q2, .int q3, .int q4, .int q5, .int (nI fm)])), (ms, .inl (E.2.1, 265, .inl (fun zz => nI ((va_up (va_up (va_up (wrM M f (M (9 + 3 * (f - 1) + 2) + q - i * M 7) (M (9 + 3 * (f - 1) + 1) - i) (M 2 + i)) (9 + 3 * (f - 1) + 2) ((M (9 + 3 * (f - 1) + 2) + q - i * M 7) - (M 7))) (9 + 3 * (f - 1) + 1) ((M (9 + 3 * (f - 1) + 1) - i) - 1)) 2 ((M 2 + i) + 1)) zz))))] _ := hP
          have hD : va_D AZ [(x, .inr (7, [.ref ms, .ref mp, .int (nI pz), .ref mt, .int (nI len), .ref md, .int (nI sp), .int q1, .int q2, .int q3, .int q4, .int q5, .int (nI fm)])), (ms, .inl (E.2.1, 265, .inl (fun zz => nI ((va_up (va_up (va_up (wrM M f (M (9 + 3 * (f - 1) + 2) + q - i * M 7) (M (9 + 3 * (f - 1) + 1) - i) (M 2 + i)) (9 + 3 * (f - 1) + 2) ((M (9 + 3 * (f - 1) + 2) + q - i * M 7) - (M 7))) (9 + 3 * (f - 1) + 1) ((M (9 + 3 * (f - 1) + 1) - i) - 1)) 2 ((M 2 + i) + 1)) zz))))] := hD
          refine lv_goto (tgt := 14) hx hb dX7_wears_79 (by decide) ?_
          have e19 : (va_up (va_up (va_up (wrM M f (M (9 + 3 * (f - 1) + 2) + q - i * M 7) (M (9 + 3 * (f - 1) + 1) - i) (M 2 + i)) (9 + 3 * (f - 1) + 2) ((M (9 + 3 * (f - 1) + 2) + q - i * M 7) - (M 7))) (9 + 3 * (f - 1) + 1) ((M (9 + 3 * (f - 1) + 1) - i) - 1)) 2 ((M 2 + i) + 1) : Nat → Nat) = wrM M f (M (9 + 3 * (f - 1) + 2) + q - (i + 1) * M 7) (M (9 + 3 * (f - 1) + 1) - (i + 1)) (M 2 + (i + 1)) := by first | rfl | (rw [wrM_u, (wr_step i1 (by omega)).2, Nat.sub_sub]; rfl)
          have hP : va_P E.1 vwCl [(x, .inr (7, [.ref ms, .ref mp, .int (nI pz), .ref mt, .int (nI len), .ref md, .int (nI sp), .int q1, .int q2, .int q3, .int q4, .int q5, .int (nI fm)])), (ms, .inl (E.2.1, 265, .inl (fun zz => nI ((wrM M f (M (9 + 3 * (f - 1) + 2) + q - (i + 1) * M 7) (M (9 + 3 * (f - 1) + 1) - (i + 1)) (M 2 + (i + 1))) zz))))] HZ := Eq.subst (motive := fun XX : Nat → Nat => va_P E.1 vwCl [(x, .inr (7, [.ref ms, .ref mp, .int (nI pz), .ref mt, .int (nI len), .ref md, .int (nI sp), .int q1, .int q2, .int q3, .int q4, .int q5, .int (nI fm)])), (ms, .inl (E.2.1, 265, .inl (fun zz => nI (XX zz))))] HZ) e19 hP
          have hD : va_D AZ [(x, .inr (7, [.ref ms, .ref mp, .int (nI pz), .ref mt, .int (nI len), .ref md, .int (nI sp), .int q1, .int q2, .int q3, .int q4, .int q5, .int (nI fm)])), (ms, .inl (E.2.1, 265, .inl (fun zz => nI ((wrM M f (M (9 + 3 * (f - 1) + 2) + q - (i + 1) * M 7) (M (9 + 3 * (f - 1) + 1) - (i + 1)) (M 2 + (i + 1))) zz))))] := Eq.subst (motive := fun XX : Nat → Nat => va_D AZ [(x, .inr (7, [.ref ms, .ref mp, .int (nI pz), .ref mt, .int (nI len), .ref md, .int (nI sp), .int q1, .int q2, .int q3, .int q4, .int q5, .int (nI fm)])), (ms, .inl (E.2.1, 265, .inl (fun zz => nI (XX zz))))]) e19 hD
          exact ih14 (i + 1) (by omega) ((wr_step i1 (by omega)).1) (by omega) _ _ hP hD hS _ (lv_sub hl [0, 1, 2] rfl)
  have e20 : (va_up M (9 + 3 * (f - 1) + 2) ((M (9 + 3 * (f - 1) + 2)) + q) : Nat → Nat) = wrM M f (M (9 + 3 * (f - 1) + 2) + q - 0 * M 7) (M (9 + 3 * (f - 1) + 1) - 0) (M 2 + 0) := by first | rfl | (rw [Nat.zero_mul, Nat.sub_zero, Nat.sub_zero, Nat.add_zero]; exact wrM_i M f _)
  have hP : va_P E.1 vwCl [(x, .inr (7, [.ref ms, .ref mp, .int (nI pz), .ref mt, .int (nI len), .ref md, .int (nI sp), .int q1, .int q2, .int q3, .int q4, .int q5, .int (nI fm)])), (ms, .inl (E.2.1, 265, .inl (fun zz => nI ((wrM M f (M (9 + 3 * (f - 1) + 2) + q - 0 * M 7) (M (9 + 3 * (f - 1) + 1) - 0) (M 2 + 0)) zz))))] HZ := Eq.subst (motive := fun XX : Nat → Nat => va_P E.1 vwCl [(x, .inr (7, [.ref ms, .ref mp, .int (nI pz), .ref mt, .int (nI len), .ref md, .int (nI sp), .int q1, .int q2, .int q3, .int q4, .int q5, .int (nI fm)])), (ms, .inl (E.2.1, 265, .inl (fun zz => nI (XX zz))))] HZ) e20 hP
  have hD : va_D AZ [(x, .inr (7, [.ref ms, .ref mp, .int (nI pz), .ref mt, .int (nI len), .ref md, .int (nI sp), .int q1, .int q2, .int q3, .int q4, .int q5, .int (nI fm)])), (ms, .inl (E.2.1, 265, .inl (fun zz => nI ((wrM M f (M (9 + 3 * (f - 1) + 2) + q - 0 * M 7) (M (9 + 3 * (f - 1) + 1) - 0) (M 2 + 0)) zz))))] := Eq.subst (motive := fun XX : Nat → Nat => va_D AZ [(x, .inr (7, [.ref ms, .ref mp, .int (nI pz), .ref mt, .int (nI len), .ref md, .int (nI sp), .int q1, .int q2, .int q3, .int q4, .int q5, .int (nI fm)])), (ms, .inl (E.2.1, 265, .inl (fun zz => nI (XX zz))))]) e20 hD
  exact L14_2 ((M (9 + 3 * (f - 1) + 1) - 0) + 1) 0 (Nat.lt_succ_self _) (by rw [Nat.zero_mul]; exact Nat.zero_le _) (by omega) _ _ hP hD hS _ (lv_sub hl [0, 1, 2] rfl)
