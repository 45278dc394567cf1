set_option maxHeartbeats 1000000 in
set_option maxRecDepth 100000 in
theorem c_X7_level (l : Launch) (E : zE) (x ms mp mt md pz len sp fm : Nat) (q1 q2 q3 q4 q5 a v : Int32) (M Pa Sd : Nat → Nat) (hn : M 0 ≤ 12) (hPb : ∀ i, i < 12 → mP M i ≤ 2400) (hHb : ∀ i, i < 12 → mH M i ≤ 2000) (hprn : ∀ i, i < 4 → mPr M i ≤ M 0) (hpz : pz ≤ 4) : zM l yX7_level wsX7_level ({ frames := 6, cells := 0, slots := 0, locals := 135 }) E [.ref x, .int a, .int v] [(x, .inr (7, [.ref ms, .ref mp, .int (nI pz), .ref mt, .int (nI len), .ref md, .int (nI sp), .int q1, .int q2, .int q3, .int q4, .int q5, .int (nI fm)])), (ms, .inl (E.2.1, 265, .inl (fun zz => nI (M zz)))), (mp, .inl (E.2.1, 1060, .inl (fun zz => nI (Pa zz)))), (md, .inl (E.2.1, 4, .inl (fun zz => nI (Sd zz))))] (fun r w' => (r = (-1) ∧ (¬ ((nI 1 ≤ a ∧ a ≤ nI (M 0)) ∧ (nI 0 ≤ v ∧ v ≤ nI 2000))) ∧ w' = [(x, .inr (7, [.ref ms, .ref mp, .int (nI pz), .ref mt, .int (nI len), .ref md, .int (nI sp), .int q1, .int q2, .int q3, .int q4, .int q5, .int (nI fm)])), (ms, .inl (E.2.1, 265, .inl (fun zz => nI (M zz)))), (mp, .inl (E.2.1, 1060, .inl (fun zz => nI (Pa zz)))), (md, .inl (E.2.1, 4, .inl (fun zz => nI (Sd zz))))]) ∨ (∃ (f : Nat) (h : Nat), r = (-2) ∧ (a = nI f ∧ v = nI h ∧ 1 ≤ f ∧ f ≤ M 0 ∧ h ≤ 2000 ∧ M (9 + 3 * (f - 1) + 1) < h) ∧ w' = [(x, .inr (7, [.ref ms, .ref mp, .int (nI pz), .ref mt, .int (nI len), .ref md, .int (nI sp), .int q1, .int q2, .int q3, .int q4, .int q5, .int (nI fm)])), (ms, .inl (E.2.1, 265, .inl (fun zz => nI (M zz)))), (mp, .inl (E.2.1, 1060, .inl (fun zz => nI (Pa zz)))), (md, .inl (E.2.1, 4, .inl (fun zz => nI (Sd zz))))]) ∨ (∃ (f : Nat) (h : Nat), r = nI (M (9 + 3 * (f - 1) + 1) - h) ∧ (a = nI f ∧ v = nI h ∧ 1 ≤ f ∧ f ≤ M 0 ∧ h ≤ 2000 ∧ h ≤ M (9 + 3 * (f - 1) + 1)) ∧ w' = [(x, .inr (7, [.ref ms, .ref mp, .int (nI (rcS pz)), .ref mt, .int (nI len), .ref md, .int (nI sp), .int q1, .int q2, .int q3, .int q4, .int q5, .int (nI fm)])), (ms, .inl (E.2.1, 265, .inl (fun zz => nI ((mvL (lvM M f h) (sdL M Sd 4) 4) zz)))), (mp, .inl (E.2.1, 1060, .inl (fun zz => nI ((rcP Pa M pz) zz)))), (md, .inl (E.2.1, 4, .inl (fun zz => nI ((sdL M Sd 4) zz))))])) := by
  refine zM.start (own := RX7) rfl (by decide +kernel) rfl (Nat.le_of_ble_eq_true rfl) (fun _ _ _ => rfl) ?_
  intro pZ eZ sZ mZ argsZ belowZ methZ cZ QZ AZ hF hret HZ locsZ hP hD hS hG ls hl
  obtain ⟨hx, hb, hml, hown, hts⟩ := id hF
  have hl : lv_has ls 4 [(0, .ref x), (1, .int a), (2, .int v)] := hl
  refine lv_aload_n hx hb dX7_level_0 rfl (lv_at hl 0 rfl) ?_
  refine lv_iload_n hx hb dX7_level_1 rfl (lv_at hl 1 rfl) ?_
  have hPc := zP_sub (w := [(x, .inr (7, [.ref ms, .ref mp, .int (nI pz), .ref mt, .int (nI len), .ref md, .int (nI sp), .int q1, .int q2, .int q3, .int q4, .int q5, .int (nI fm)])), (ms, .inl (E.2.1, 265, .inl (fun zz => nI (M zz))))]) hP [0, 1] rfl
  refine z_rd (fun _ h => h) (va_runV (As := [.int a]) (rest := []) hF (c_X7_isFret l E x ms mp mt md pz len sp fm q1 q2 q3 q4 q5 a M ) (cwV 1 hts gX7_level_X7_isFret rfl rfl rfl (by decide +kernel) ⟨Nat.le_of_ble_eq_true rfl, Nat.le_of_ble_eq_true rfl⟩) (z_preRV (va_recv hG.1 hP (ci := 7) (q0 := 0) rfl rfl) hPc hG) rfl rfl hl.1 rfl (lv_room (Nat.le_of_ble_eq_true rfl)) dX7_level_2 ⟨Nat.zero_le _, Nat.zero_le _⟩) (fun r1 hr1 => ?_)
  rcases hr1 with ⟨rfl, c2⟩ | ⟨rfl, c2⟩
  · -- 2 t
    have ka := c2
    refine lv_if_eq (tgt := 19) hx hb dX7_level_5 (by decide) (fun c => absurd c (by decide)) (fun _ => ?_)
    refine lv_iload_n hx hb dX7_level_8 rfl (lv_at hl 2 rfl) ?_
    refine lv_iconst (v := nI 0) hx hb dX7_level_9 (by decide) ?_
    refine lv_sipush (v := nI 2000) hx hb dX7_level_10 (by decide) ?_
    refine z_rd (fun _ h => h) (va_runS (As := [.int v, .int (nI 0), .int (nI 2000)]) (rest := []) hF (c_X7_in l E v (nI 0) (nI 2000) ) (va_cwS 3 hts gX7_level_X7_in rfl rfl rfl (by decide +kernel) ⟨Nat.le_of_ble_eq_true rfl, Nat.le_of_ble_eq_true rfl⟩) (z_preR (fun k q h => by simp at h) hG) rfl rfl hl.1 rfl (lv_room (Nat.le_of_ble_eq_true rfl)) dX7_level_13 ⟨Nat.zero_le _, Nat.zero_le _⟩) (fun r3 hr3 => ?_)
    rcases hr3 with ⟨rfl, c4⟩ | ⟨rfl, c4⟩
    · -- 13 t
      obtain ⟨f, hf1, hf2, rfl⟩ := z_ge (by omega) (by omega) ka.1 ka.2
      obtain ⟨h, hh1, hh2, rfl⟩ := z_ge (by omega) (by omega) c4.1 c4.2
      have hk0 : NK M := ⟨hn, hPb, hHb, hprn⟩
      have hk1 := NK_lv (f := f) (h := h) (by omega) (by omega) hk0
      have hhb := hHb (f - 1) (by omega)
      unfold mH at hhb
      refine lv_if_ne (tgt := 21) hx hb dX7_level_16 (by decide) (fun _ => ?_) (fun c => absurd c (by decide))
      refine lv_aload_n hx hb dX7_level_21 rfl (lv_at hl 0 rfl) ?_
      refine lv_iload_n hx hb dX7_level_22 rfl (lv_at hl 1 rfl) ?_
      refine lv_iconst (v := nI 1) hx hb dX7_level_23 (by decide) ?_
      have hPc := zP_sub (w := [(x, .inr (7, [.ref ms, .ref mp, .int (nI pz), .ref mt, .int (nI len), .ref md, .int (nI sp), .int q1, .int q2, .int q3, .int q4, .int q5, .int (nI fm)])), (ms, .inl (E.2.1, 265, .inl (fun zz => nI (M zz))))]) hP [0, 1] rfl
      refine z_rd (fun _ h => h) (va_runV (As := [.int (nI f), .int (nI 1)]) (rest := []) hF (c_X7_on l E x ms mp mt md pz len sp fm f 1 q1 q2 q3 q4 q5 M (by first | assumption | omega) (by first | assumption | omega) (by first | assumption | omega)) (cwV 2 hts gX7_level_X7_on rfl rfl rfl (by decide +kernel) ⟨Nat.le_of_ble_eq_true rfl, Nat.le_of_ble_eq_true rfl⟩) (z_preRV (va_recv hG.1 hP (ci := 7) (q0 := 0) rfl rfl) hPc hG) rfl rfl hl.1 rfl (lv_room (Nat.le_of_ble_eq_true rfl)) dX7_level_24 ⟨Nat.zero_le _, Nat.zero_le _⟩) (fun r5 hr5 => ?_)
      subst hr5
      refine lv_istore_n (lv' := [(3, .int (nI (M (9 + 3 * (f - 1) + 1)))), (0, .ref x), (1, .int (nI f)), (2, .int (nI h))]) hx hb dX7_level_27 rfl hl (by decide) rfl (fun ls hl => ?_)
      refine lv_iload_n hx hb dX7_level_28 rfl (lv_at hl 3 rfl) ?_
      refine lv_iload_n hx hb dX7_level_29 rfl (lv_at hl 0 rfl) ?_
      refine z_icmp_le (a := h) (b := M (9 + 3 * (f - 1) + 1)) (tgt := 36) hx hb dX7_level_30 (by decide) (by omega) (by omega) (fun c6 => ?_) (fun c6 => ?_)
      · -- 30 t
        refine lv_aload_n hx hb dX7_level_36 rfl (lv_at hl 1 rfl) ?_
        have hPc := zP_sub (w := [(x, .inr (7, [.ref ms, .ref mp, .int (nI pz), .ref mt, .int (nI len), .ref md, .int (nI sp), .int q1, .int q2, .int q3, .int q4, .int q5, .int (nI fm)])), (ms, .inl (E.2.1, 265, .inl (fun zz => nI (M zz)))), (mp, .inl (E.2.1, 1060, .inl (fun zz => nI (Pa zz))))]) hP [0, 1, 2] rfl
        have hDc := zD_sub (w := [(x, .inr (7, [.ref ms, .ref mp, .int (nI pz), .ref mt, .int (nI len), .ref md, .int (nI sp), .int q1, .int q2, .int q3, .int q4, .int q5, .int (nI fm)])), (ms, .inl (E.2.1, 265, .inl (fun zz => nI (M zz)))), (mp, .inl (E.2.1, 1060, .inl (fun zz => nI (Pa zz))))]) hD [0, 1, 2] (by decide) rfl
        refine z_vd [0, 1, 2] (va_runV (As := []) (rest := []) hF (c_X7_records l E x ms mp mt md pz len sp fm q1 q2 q3 q4 q5 M Pa (by first | assumption | omega)) (cwV 0 hts gX7_level_X7_records rfl rfl rfl (by decide +kernel) ⟨Nat.le_of_ble_eq_true rfl, Nat.le_of_ble_eq_true rfl⟩) (z_preMV (va_recv hG.1 hP (ci := 7) (q0 := 0) rfl rfl) hPc hDc hG) rfl rfl hl.1 rfl (lv_room (Nat.le_of_ble_eq_true rfl)) dX7_level_37 ⟨Nat.zero_le _, Nat.zero_le _⟩) hP hD hS rfl (fun w' HZ locsZ hw hP hD hS => ?_)
        subst hw
        have hP : va_P E.1 vwCl [(x, .inr (7, [.ref ms, .ref mp, .int (nI (rcS pz)), .ref mt, .int (nI len), .ref md, .int (nI sp), .int q1, .int q2, .int q3, .int q4, .int q5, .int (nI fm)])), (ms, .inl (E.2.1, 265, .inl (fun zz => nI (M zz)))), (mp, .inl (E.2.1, 1060, .inl (fun zz => nI ((rcP Pa M pz) zz)))), (md, .inl (E.2.1, 4, .inl (fun zz => nI (Sd zz))))] _ := hP
        have hD : va_D AZ [(x, .inr (7, [.ref ms, .ref mp, .int (nI (rcS pz)), .ref mt, .int (nI len), .ref md, .int (nI sp), .int q1, .int q2, .int q3, .int q4, .int q5, .int (nI fm)])), (ms, .inl (E.2.1, 265, .inl (fun zz => nI (M zz)))), (mp, .inl (E.2.1, 1060, .inl (fun zz => nI ((rcP Pa M pz) zz)))), (md, .inl (E.2.1, 4, .inl (fun zz => nI (Sd zz))))] := hD
        refine lv_aload_n hx hb dX7_level_40 rfl (lv_at hl 1 rfl) ?_
        have hPc := zP_sub (w := [(x, .inr (7, [.ref ms, .ref mp, .int (nI (rcS pz)), .ref mt, .int (nI len), .ref md, .int (nI sp), .int q1, .int q2, .int q3, .int q4, .int q5, .int (nI fm)])), (ms, .inl (E.2.1, 265, .inl (fun zz => nI (M zz)))), (md, .inl (E.2.1, 4, .inl (fun zz => nI (Sd zz))))]) hP [0, 1, 3] rfl
        have hDc := zD_sub (w := [(x, .inr (7, [.ref ms, .ref mp, .int (nI (rcS pz)), .ref mt, .int (nI len), .ref md, .int (nI sp), .int q1, .int q2, .int q3, .int q4, .int q5, .int (nI fm)])), (ms, .inl (E.2.1, 265, .inl (fun zz => nI (M zz)))), (md, .inl (E.2.1, 4, .inl (fun zz => nI (Sd zz))))]) hD [0, 1, 3] (by decide) rfl
        refine z_vd [0, 1, 3] (va_runV (As := []) (rest := []) hF (c_X7_stands l E x ms mp mt md (rcS pz) len sp fm q1 q2 q3 q4 q5 M Sd (by first | assumption | omega) (by first | assumption | omega) (by first | assumption | omega) (by first | assumption | omega)) (cwV 0 hts gX7_level_X7_stands rfl rfl rfl (by decide +kernel) ⟨Nat.le_of_ble_eq_true rfl, Nat.le_of_ble_eq_true rfl⟩) (z_preMV (va_recv hG.1 hP (ci := 7) (q0 := 0) rfl rfl) hPc hDc hG) rfl rfl hl.1 rfl (lv_room (Nat.le_of_ble_eq_true rfl)) dX7_level_41 ⟨Nat.zero_le _, Nat.zero_le _⟩) hP hD hS rfl (fun w' HZ locsZ hw hP hD hS => ?_)
        subst hw
        have hP : va_P E.1 vwCl [(x, .inr (7, [.ref ms, .ref mp, .int (nI (rcS pz)), .ref mt, .int (nI len), .ref md, .int (nI sp), .int q1, .int q2, .int q3, .int q4, .int q5, .int (nI fm)])), (ms, .inl (E.2.1, 265, .inl (fun zz => nI (M zz)))), (mp, .inl (E.2.1, 1060, .inl (fun zz => nI ((rcP Pa M pz) zz)))), (md, .inl (E.2.1, 4, .inl (fun zz => nI ((sdL M Sd 4) zz))))] _ := hP
        have hD : va_D AZ [(x, .inr (7, [.ref ms, .ref mp, .int (nI (rcS pz)), .ref mt, .int (nI len), .ref md, .int (nI sp), .int q1, .int q2, .int q3, .int q4, .int q5, .int (nI fm)])), (ms, .inl (E.2.1, 265, .inl (fun zz => nI (M zz)))), (mp, .inl (E.2.1, 1060, .inl (fun zz => nI ((rcP Pa M pz) zz)))), (md, .inl (E.2.1, 4, .inl (fun zz => nI ((sdL M Sd 4) zz))))] := hD
        refine lv_aload_n hx hb dX7_level_44 rfl (lv_at hl 1 rfl) ?_
        refine lv_iload_n hx hb dX7_level_45 rfl (lv_at hl 2 rfl) ?_
        refine lv_iconst (v := nI 1) hx hb dX7_level_46 (by decide) ?_
        refine lv_iload_n hx hb dX7_level_47 rfl (lv_at hl 3 rfl) ?_
        have hPc := zP_sub (w := [(x, .inr (7, [.ref ms, .ref mp, .int (nI (rcS pz)), .ref mt, .int (nI len), .ref md, .int (nI sp), .int q1, .int q2, .int q3, .int q4, .int q5, .int (nI fm)])), (ms, .inl (E.2.1, 265, .inl (fun zz => nI (M zz))))]) hP [0, 1] rfl
        have hDc := zD_sub (w := [(x, .inr (7, [.ref ms, .ref mp, .int (nI (rcS pz)), .ref mt, .int (nI len), .ref md, .int (nI sp), .int q1, .int q2, .int q3, .int q4, .int q5, .int (nI fm)])), (ms, .inl (E.2.1, 265, .inl (fun zz => nI (M zz))))]) hD [0, 1] (by decide) rfl
        refine z_vd [0, 1] (va_runV (As := [.int (nI f), .int (nI 1), .int (nI h)]) (rest := []) hF (c_X7_lays l E x ms mp mt md (rcS pz) len sp fm f 1 h q1 q2 q3 q4 q5 M (by first | assumption | omega) (by first | assumption | omega) (by first | assumption | omega)) (cwV 3 hts gX7_level_X7_lays rfl rfl rfl (by decide +kernel) ⟨Nat.le_of_ble_eq_true rfl, Nat.le_of_ble_eq_true rfl⟩) (z_preMV (va_recv hG.1 hP (ci := 7) (q0 := 0) rfl rfl) hPc hDc hG) rfl rfl hl.1 rfl (lv_room (Nat.le_of_ble_eq_true rfl)) dX7_level_48 ⟨Nat.zero_le _, Nat.zero_le _⟩) hP hD hS rfl (fun w' HZ locsZ hw hP hD hS => ?_)
        subst hw
        have hP : va_P E.1 vwCl [(x, .inr (7, [.ref ms, .ref mp, .int (nI (rcS pz)), .ref mt, .int (nI len), .ref md, .int (nI sp), .int q1, .int q2, .int q3, .int q4, .int q5, .int (nI fm)])), (ms, .inl (E.2.1, 265, .inl (fun zz => nI ((va_up M (9 + 3 * (f - 1) + 1) h) zz)))), (mp, .inl (E.2.1, 1060, .inl (fun zz => nI ((rcP Pa M pz) zz)))), (md, .inl (E.2.1, 4, .inl (fun zz => nI ((sdL M Sd 4) zz))))] _ := hP
        have hD : va_D AZ [(x, .inr (7, [.ref ms, .ref mp, .int (nI (rcS pz)), .ref mt, .int (nI len), .ref md, .int (nI sp), .int q1, .int q2, .int q3, .int q4, .int q5, .int (nI fm)])), (ms, .inl (E.2.1, 265, .inl (fun zz => nI ((va_up M (9 + 3 * (f - 1) + 1) h) zz)))), (mp, .inl (E.2.1, 1060, .inl (fun zz => nI ((rcP Pa M pz) zz)))), (md, .inl (E.2.1, 4, .inl (fun zz => nI ((sdL M Sd 4) zz))))] := hD
        refine lv_aload_n hx hb dX7_level_51 rfl (lv_at hl 1 rfl) ?_
        refine lv_iload_n hx hb dX7_level_52 rfl (lv_at hl 2 rfl) ?_
        refine lv_iconst (v := nI 2) hx hb dX7_level_53 (by decide) ?_
        refine lv_iconst (v := nI 0) hx hb dX7_level_54 (by decide) ?_
        have hPc := zP_sub (w := [(x, .inr (7, [.ref ms, .ref mp, .int (nI (rcS pz)), .ref mt, .int (nI len), .ref md, .int (nI sp), .int q1, .int q2, .int q3, .int q4, .int q5, .int (nI fm)])), (ms, .inl (E.2.1, 265, .inl (fun zz => nI ((va_up M (9 + 3 * (f - 1) + 1) h) zz))))]) hP [0, 1] rfl
        have hDc := zD_sub (w := [(x, .inr (7, [.ref ms, .ref mp, .int (nI (rcS pz)), .ref mt, .int (nI len), .ref md, .int (nI sp), .int q1, .int q2, .int q3, .int q4, .int q5, .int (nI fm)])), (ms, .inl (E.2.1, 265, .inl (fun zz => nI ((va_up M (9 + 3 * (f - 1) + 1) h) zz))))]) hD [0, 1] (by decide) rfl
        refine z_vd [0, 1] (va_runV (As := [.int (nI f), .int (nI 2), .int (nI 0)]) (rest := []) hF (c_X7_lays l E x ms mp mt md (rcS pz) len sp fm f 2 0 q1 q2 q3 q4 q5 (va_up M (9 + 3 * (f - 1) + 1) h) (by first | assumption | omega) (by first | assumption | omega) (by first | assumption | omega)) (cwV 3 hts gX7_level_X7_lays rfl rfl rfl (by decide +kernel) ⟨Nat.le_of_ble_eq_true rfl, Nat.le_of_ble_eq_true rfl⟩) (z_preMV (va_recv hG.1 hP (ci := 7) (q0 := 0) rfl rfl) hPc hDc hG) rfl rfl hl.1 rfl (lv_room (Nat.le_of_ble_eq_true rfl)) dX7_level_55 ⟨Nat.zero_le _, Nat.zero_le _⟩) hP hD hS rfl (fun w' HZ locsZ hw hP hD hS => ?_)
        subst hw
        have hP : va_P E.1 vwCl [(x, .inr (7, [.ref ms, .ref mp, .int (nI (rcS pz)), .ref mt, .int (nI len), .ref md, .int (nI sp), .int q1, .int q2, .int q3, .int q4, .int q5, .int (nI fm)])), (ms, .inl (E.2.1, 265, .inl (fun zz => nI ((va_up (va_up M (9 + 3 * (f - 1) + 1) h) (9 + 3 * (f - 1) + 2) 0) zz)))), (mp, .inl (E.2.1, 1060, .inl (fun zz => nI ((rcP Pa M pz) zz)))), (md, .inl (E.2.1, 4, .inl (fun zz => nI ((sdL M Sd 4) zz))))] _ := hP
        have hD : va_D AZ [(x, .inr (7, [.ref ms, .ref mp, .int (nI (rcS pz)), .ref mt, .int (nI len), .ref md, .int (nI sp), .int q1, .int q2, .int q3, .int q4, .int q5, .int (nI fm)])), (ms, .inl (E.2.1, 265, .inl (fun zz => nI ((va_up (va_up M (9 + 3 * (f - 1) + 1) h) (9 + 3 * (f - 1) + 2) 0) zz)))), (mp, .inl (E.2.1, 1060, .inl (fun zz => nI ((rcP Pa M pz) zz)))), (md, .inl (E.2.1, 4, .inl (fun zz => nI ((sdL M Sd 4) zz))))] := hD
        have e7 : (va_up (va_up M (9 + 3 * (f - 1) + 1) h) (9 + 3 * (f - 1) + 2) 0 : Nat → Nat) = lvM M f h := by first | rfl | (rfl)
        have hP : va_P E.1 vwCl [(x, .inr (7, [.ref ms, .ref mp, .int (nI (rcS pz)), .ref mt, .int (nI len), .ref md, .int (nI sp), .int q1, .int q2, .int q3, .int q4, .int q5, .int (nI fm)])), (ms, .inl (E.2.1, 265, .inl (fun zz => nI ((lvM M f h) zz)))), (mp, .inl (E.2.1, 1060, .inl (fun zz => nI ((rcP Pa M pz) zz)))), (md, .inl (E.2.1, 4, .inl (fun zz => nI ((sdL M Sd 4) zz))))] HZ := Eq.subst (motive := fun XX : Nat → Nat => va_P E.1 vwCl [(x, .inr (7, [.ref ms, .ref mp, .int (nI (rcS pz)), .ref mt, .int (nI len), .ref md, .int (nI sp), .int q1, .int q2, .int q3, .int q4, .int q5, .int (nI fm)])), (ms, .inl (E.2.1, 265, .inl (fun zz => nI (XX zz)))), (mp, .inl (E.2.1, 1060, .inl (fun zz => nI ((rcP Pa M pz) zz)))), (md, .inl (E.2.1, 4, .inl (fun zz => nI ((sdL M Sd 4) zz))))] HZ) e7 hP
        have hD : va_D AZ [(x, .inr (7, [.ref ms, .ref mp, .int (nI (rcS pz)), .ref mt, .int (nI len), .ref md, .int (nI sp), .int q1, .int q2, .int q3, .int q4, .int q5, .int (nI fm)])), (ms, .inl (E.2.1, 265, .inl (fun zz => nI ((lvM M f h) zz)))), (mp, .inl (E.2.1, 1060, .inl (fun zz => nI ((rcP Pa M pz) zz)))), (md, .inl (E.2.1, 4, .inl (fun zz => nI ((sdL M Sd 4) zz))))] := Eq.subst (motive := fun XX : Nat → Nat => va_D AZ [(x, .inr (7, [.ref ms, .ref mp, .int (nI (rcS pz)), .ref mt, .int (nI len), .ref md, .int (nI sp), .int q1, .int q2, .int q3, .int q4, .int q5, .int (nI fm)])), (ms, .inl (E.2.1, 265, .inl (fun zz => nI (XX zz)))), (mp, .inl (E.2.1, 1060, .inl (fun zz => nI ((rcP Pa M pz) zz)))), (md, .inl (E.2.1, 4, .inl (fun zz => nI ((sdL M Sd 4) zz))))]) e7 hD
        refine lv_aload_n hx hb dX7_level_58 rfl (lv_at hl 1 rfl) ?_
        have hPc := zP_sub (w := [(x, .inr (7, [.ref ms, .ref mp, .int (nI (rcS pz)), .ref mt, .int (nI len), .ref md, .int (nI sp), .int q1, .int q2, .int q3, .int q4, .int q5, .int (nI fm)])), (ms, .inl (E.2.1, 265, .inl (fun zz => nI ((lvM M f h) zz)))), (md, .inl (E.2.1, 4, .inl (fun zz => nI ((sdL M Sd 4) zz))))]) hP [0, 1, 3] rfl
        have hDc := zD_sub (w := [(x, .inr (7, [.ref ms, .ref mp, .int (nI (rcS pz)), .ref mt, .int (nI len), .ref md, .int (nI sp), .int q1, .int q2, .int q3, .int q4, .int q5, .int (nI fm)])), (ms, .inl (E.2.1, 265, .inl (fun zz => nI ((lvM M f h) zz)))), (md, .inl (E.2.1, 4, .inl (fun zz => nI ((sdL M Sd 4) zz))))]) hD [0, 1, 3] (by decide) rfl
        refine z_vd [0, 1, 3] (va_runV (As := []) (rest := []) hF (c_X7_moved l E x ms mp mt md (rcS pz) len sp fm q1 q2 q3 q4 q5 (lvM M f h) (sdL M Sd 4) (hk1.1) (hk1.2.1) (hk1.2.2.1) (hk1.2.2.2) (sd_le hk0)) (cwV 0 hts gX7_level_X7_moved rfl rfl rfl (by decide +kernel) ⟨Nat.le_of_ble_eq_true rfl, Nat.le_of_ble_eq_true rfl⟩) (z_preMV (va_recv hG.1 hP (ci := 7) (q0 := 0) rfl rfl) hPc hDc hG) rfl rfl hl.1 rfl (lv_room (Nat.le_of_ble_eq_true rfl)) dX7_level_59 ⟨Nat.zero_le _, Nat.zero_le _⟩) hP hD hS rfl (fun w' HZ locsZ hw hP hD hS => ?_)
        subst hw
        have hP : va_P E.1 vwCl [(x, .inr (7, [.ref ms, .ref mp, .int (nI (rcS pz)), .ref mt, .int (nI len), .ref md, .int (nI sp), .int q1, .int q2, .int q3, .int q4, .int q5, .int (nI fm)])), (ms, .inl (E.2.1, 265, .inl (fun zz => nI ((mvL (lvM M f h) (sdL M Sd 4) 4) zz)))), (mp, .inl (E.2.1, 1060, .inl (fun zz => nI ((rcP Pa M pz) zz)))), (md, .inl (E.2.1, 4, .inl (fun zz => nI ((sdL M Sd 4) zz))))] _ := hP
        have hD : va_D AZ [(x, .inr (7, [.ref ms, .ref mp, .int (nI (rcS pz)), .ref mt, .int (nI len), .ref md, .int (nI sp), .int q1, .int q2, .int q3, .int q4, .int q5, .int (nI fm)])), (ms, .inl (E.2.1, 265, .inl (fun zz => nI ((mvL (lvM M f h) (sdL M Sd 4) 4) zz)))), (mp, .inl (E.2.1, 1060, .inl (fun zz => nI ((rcP Pa M pz) zz)))), (md, .inl (E.2.1, 4, .inl (fun zz => nI ((sdL M Sd 4) zz))))] := hD
        refine lv_iload_n hx hb dX7_level_62 rfl (lv_at hl 0 rfl) ?_
        refine lv_iload_n hx hb dX7_level_63 rfl (lv_at hl 3 rfl) ?_
        refine z_isub (a := M (9 + 3 * (f - 1) + 1)) (b := h) hx hb dX7_level_64 (by omega) ?_
        exact hret _ _ _ _ _ _ hP hS dX7_level_65 rfl (Or.inr (Or.inr (⟨f, h, by first | rfl | (congr 1; omega), ⟨rfl, rfl, by omega, by omega, by omega, by omega⟩, rfl⟩)))
      · -- 30 f
        refine lv_bipush (v := (-2)) hx hb dX7_level_33 (by decide) ?_
        exact hret _ _ _ _ _ _ hP hS dX7_level_35 rfl (Or.inr (Or.inl ⟨f, h, rfl, ⟨rfl, rfl, by omega, by omega, by omega, by omega⟩, rfl⟩))
    · -- 13 f
      refine lv_if_ne (tgt := 21) hx hb dX7_level_16 (by decide) (fun c => absurd c (by decide)) (fun _ => ?_)
      refine lv_iconst (v := (-1)) hx hb dX7_level_19 (by decide) ?_
      exact hret _ _ _ _ _ _ hP hS dX7_level_20 rfl (Or.inl ⟨rfl, by intro q; first | exact absurd q (by assumption) | exact absurd q.1 (by assumption) | exact absurd q.2 (by assumption) | exact absurd q.2.1 (by assumption) | exact absurd q.2.2 (by assumption), rfl⟩)
  · -- 2 f
    refine lv_if_eq (tgt := 19) hx hb dX7_level_5 (by decide) (fun _ => ?_) (fun c => absurd c (by decide))
    refine lv_iconst (v := (-1)) hx hb dX7_level_19 (by decide) ?_
    exact hret _ _ _ _ _ _ hP hS dX7_level_20 rfl (Or.inl ⟨rfl, by intro q; first | exact absurd q (by assumption) | exact absurd q.1 (by assumption) | exact absurd q.2 (by assumption) | exact absurd q.2.1 (by assumption) | exact absurd q.2.2 (by assumption), rfl⟩)
set_option maxHeartbeats 1000000 in
set_option maxRecDepth 100000 in
theorem c_X7_tune (l : Launch) (E : zE) (x ms mp mt md pz len sp fm : Nat) (q1 q2 q3 q4 q5 a v : Int32) (M Pa : Nat → Nat) (hpz : pz ≤ 4) : zM l yX7_tune wsX7_tune ({ frames := 2, cells := 0, slots := 0, locals := 42 }) E [.ref x, .int a, .int v] [(x, .inr (7, [.ref ms, .ref mp, .int (nI pz), .ref mt, .int (nI len), .ref md, .int (nI sp), .int q1, .int q2, .int q3, .int q4, .int q5, .int (nI fm)])), (ms, .inl (E.2.1, 265, .inl (fun zz => nI (M zz)))), (mp, .inl (E.2.1, 1060, .inl (fun zz => nI (Pa zz))))] (fun r w' => (r = (-1) ∧ (¬ ((nI 0 ≤ a ∧ a ≤ nI 3) ∧ (nI 1000 ≤ v ∧ v ≤ nI 100000000))) ∧ w' = [(x, .inr (7, [.ref ms, .ref mp, .int (nI pz), .ref mt, .int (nI len), .ref md, .int (nI sp), .int q1, .int q2, .int q3, .int q4, .int q5, .int (nI fm)])), (ms, .inl (E.2.1, 265, .inl (fun zz => nI (M zz)))), (mp, .inl (E.2.1, 1060, .inl (fun zz => nI (Pa zz))))]) ∨ (∃ (s : Nat) (w : Nat), r = nI (M (45 + 4 * s + 0)) ∧ (a = nI s ∧ v = nI w ∧ s < 4 ∧ 1000 ≤ w ∧ w ≤ 100000000) ∧ w' = [(x, .inr (7, [.ref ms, .ref mp, .int (nI (rcS pz)), .ref mt, .int (nI len), .ref md, .int (nI sp), .int q1, .int q2, .int q3, .int q4, .int q5, .int (nI fm)])), (ms, .inl (E.2.1, 265, .inl (fun zz => nI ((va_up M (45 + 4 * s + 0) w) zz)))), (mp, .inl (E.2.1, 1060, .inl (fun zz => nI ((rcP Pa M pz) zz))))])) := by
  refine zM.start (own := RX7) rfl (by decide +kernel) rfl (Nat.le_of_ble_eq_true rfl) (fun _ _ _ => rfl) ?_
  intro pZ eZ sZ mZ argsZ belowZ methZ cZ QZ AZ hF hret HZ locsZ hP hD hS hG ls hl
  obtain ⟨hx, hb, hml, hown, hts⟩ := id hF
  have hl : lv_has ls 4 [(0, .ref x), (1, .int a), (2, .int v)] := hl
  refine lv_iload_n hx hb dX7_tune_0 rfl (lv_at hl 1 rfl) ?_
  refine z_rd (fun _ h => h) (va_runS (As := [.int a]) (rest := []) hF (c_X7_isString l E a ) (va_cwS 1 hts gX7_tune_X7_isString rfl rfl rfl (by decide +kernel) ⟨Nat.le_of_ble_eq_true rfl, Nat.le_of_ble_eq_true rfl⟩) (z_preR (fun k q h => by simp at h) hG) rfl rfl hl.1 rfl (lv_room (Nat.le_of_ble_eq_true rfl)) dX7_tune_1 ⟨Nat.zero_le _, Nat.zero_le _⟩) (fun r1 hr1 => ?_)
  rcases hr1 with ⟨rfl, c2⟩ | ⟨rfl, c2⟩
  · -- 1 t
    have ka := c2
    refine lv_if_eq (tgt := 19) hx hb dX7_tune_4 (by decide) (fun c => absurd c (by decide)) (fun _ => ?_)
    refine lv_iload_n hx hb dX7_tune_7 rfl (lv_at hl 2 rfl) ?_
    refine lv_sipush (v := nI 1000) hx hb dX7_tune_8 (by decide) ?_
    refine lv_ldc (v := nI 100000000) hx hb hown (hts (.constant RX7 91 100000000) (by decide +kernel)) dX7_tune_11 ?_
    refine z_rd (fun _ h => h) (va_runS (As := [.int v, .int (nI 1000), .int (nI 100000000)]) (rest := []) hF (c_X7_in l E v (nI 1000) (nI 100000000) ) (va_cwS 3 hts gX7_tune_X7_in rfl rfl rfl (by decide +kernel) ⟨Nat.le_of_ble_eq_true rfl, Nat.le_of_ble_eq_true rfl⟩) (z_preR (fun k q h => by simp at h) hG) rfl rfl hl.1 rfl (lv_room (Nat.le_of_ble_eq_true rfl)) dX7_tune_13 ⟨Nat.zero_le _, Nat.zero_le _⟩) (fun r3 hr3 => ?_)
    rcases hr3 with ⟨rfl, c4⟩ | ⟨rfl, c4⟩
    · -- 13 t
      obtain ⟨s, hs1, hs2, rfl⟩ := z_ge (by omega) (by omega) ka.1 ka.2
      obtain ⟨w, hw1, hw2, rfl⟩ := z_ge (by omega) (by omega) c4.1 c4.2
      refine lv_if_ne (tgt := 21) hx hb dX7_tune_16 (by decide) (fun _ => ?_) (fun c => absurd c (by decide))
      refine lv_aload_n hx hb dX7_tune_21 rfl (lv_at hl 0 rfl) ?_
      have hPc := zP_sub (w := [(x, .inr (7, [.ref ms, .ref mp, .int (nI pz), .ref mt, .int (nI len), .ref md, .int (nI sp), .int q1, .int q2, .int q3, .int q4, .int q5, .int (nI fm)])), (ms, .inl (E.2.1, 265, .inl (fun zz => nI (M zz)))), (mp, .inl (E.2.1, 1060, .inl (fun zz => nI (Pa zz))))]) hP [0, 1, 2] rfl
      have hDc := zD_sub (w := [(x, .inr (7, [.ref ms, .ref mp, .int (nI pz), .ref mt, .int (nI len), .ref md, .int (nI sp), .int q1, .int q2, .int q3, .int q4, .int q5, .int (nI fm)])), (ms, .inl (E.2.1, 265, .inl (fun zz => nI (M zz)))), (mp, .inl (E.2.1, 1060, .inl (fun zz => nI (Pa zz))))]) hD [0, 1, 2] (by decide) rfl
      refine z_vd [0, 1, 2] (va_runV (As := []) (rest := []) hF (c_X7_records l E x ms mp mt md pz len sp fm q1 q2 q3 q4 q5 M Pa (by first | assumption | omega)) (cwV 0 hts gX7_tune_X7_records rfl rfl rfl (by decide +kernel) ⟨Nat.le_of_ble_eq_true rfl, Nat.le_of_ble_eq_true rfl⟩) (z_preMV (va_recv hG.1 hP (ci := 7) (q0 := 0) rfl rfl) hPc hDc hG) rfl rfl hl.1 rfl (lv_room (Nat.le_of_ble_eq_true rfl)) dX7_tune_22 ⟨Nat.zero_le _, Nat.zero_le _⟩) hP hD hS rfl (fun w' HZ locsZ hw hP hD hS => ?_)
      subst hw
      have hP : va_P E.1 vwCl [(x, .inr (7, [.ref ms, .ref mp, .int (nI (rcS pz)), .ref mt, .int (nI len), .ref md, .int (nI sp), .int q1, .int q2, .int q3, .int q4, .int q5, .int (nI fm)])), (ms, .inl (E.2.1, 265, .inl (fun zz => nI (M zz)))), (mp, .inl (E.2.1, 1060, .inl (fun zz => nI ((rcP Pa M pz) zz))))] _ := hP
      have hD : va_D AZ [(x, .inr (7, [.ref ms, .ref mp, .int (nI (rcS pz)), .ref mt, .int (nI len), .ref md, .int (nI sp), .int q1, .int q2, .int q3, .int q4, .int q5, .int (nI fm)])), (ms, .inl (E.2.1, 265, .inl (fun zz => nI (M zz)))), (mp, .inl (E.2.1, 1060, .inl (fun zz => nI ((rcP Pa M pz) zz))))] := hD
      refine lv_aload_n hx hb dX7_tune_25 rfl (lv_at hl 0 rfl) ?_
      refine lv_iload_n hx hb dX7_tune_26 rfl (lv_at hl 1 rfl) ?_
      refine lv_iconst (v := nI 0) hx hb dX7_tune_27 (by decide) ?_
      have hPc := zP_sub (w := [(x, .inr (7, [.ref ms, .ref mp, .int (nI (rcS pz)), .ref mt, .int (nI len), .ref md, .int (nI sp), .int q1, .int q2, .int q3, .int q4, .int q5, .int (nI fm)])), (ms, .inl (E.2.1, 265, .inl (fun zz => nI (M zz))))]) hP [0, 1] rfl
      refine z_rd (fun _ h => h) (va_runV (As := [.int (nI s), .int (nI 0)]) (rest := []) hF (c_X7_of l E x ms mp mt md (rcS pz) len sp fm s 0 q1 q2 q3 q4 q5 M (by first | assumption | omega) (by first | assumption | omega)) (cwV 2 hts gX7_tune_X7_of rfl rfl rfl (by decide +kernel) ⟨Nat.le_of_ble_eq_true rfl, Nat.le_of_ble_eq_true rfl⟩) (z_preRV (va_recv hG.1 hP (ci := 7) (q0 := 0) rfl rfl) hPc hG) rfl rfl hl.1 rfl (lv_room (Nat.le_of_ble_eq_true rfl)) dX7_tune_28 ⟨Nat.zero_le _, Nat.zero_le _⟩) (fun r5 hr5 => ?_)
      subst hr5
      refine lv_istore_n (lv' := [(3, .int (nI (M (45 + 4 * s + 0)))), (0, .ref x), (1, .int (nI s)), (2, .int (nI w))]) hx hb dX7_tune_31 rfl hl (by decide) rfl (fun ls hl => ?_)
      refine lv_aload_n hx hb dX7_tune_32 rfl (lv_at hl 1 rfl) ?_
      refine lv_iload_n hx hb dX7_tune_33 rfl (lv_at hl 2 rfl) ?_
      refine lv_iconst (v := nI 0) hx hb dX7_tune_34 (by decide) ?_
      refine lv_iload_n hx hb dX7_tune_35 rfl (lv_at hl 3 rfl) ?_
      have hPc := zP_sub (w := [(x, .inr (7, [.ref ms, .ref mp, .int (nI (rcS pz)), .ref mt, .int (nI len), .ref md, .int (nI sp), .int q1, .int q2, .int q3, .int q4, .int q5, .int (nI fm)])), (ms, .inl (E.2.1, 265, .inl (fun zz => nI (M zz))))]) hP [0, 1] rfl
      have hDc := zD_sub (w := [(x, .inr (7, [.ref ms, .ref mp, .int (nI (rcS pz)), .ref mt, .int (nI len), .ref md, .int (nI sp), .int q1, .int q2, .int q3, .int q4, .int q5, .int (nI fm)])), (ms, .inl (E.2.1, 265, .inl (fun zz => nI (M zz))))]) hD [0, 1] (by decide) rfl
      refine z_vd [0, 1] (va_runV (As := [.int (nI s), .int (nI 0), .int (nI w)]) (rest := []) hF (c_X7_puts l E x ms mp mt md (rcS pz) len sp fm s 0 w q1 q2 q3 q4 q5 M (by first | assumption | omega) (by first | assumption | omega)) (cwV 3 hts gX7_tune_X7_puts rfl rfl rfl (by decide +kernel) ⟨Nat.le_of_ble_eq_true rfl, Nat.le_of_ble_eq_true rfl⟩) (z_preMV (va_recv hG.1 hP (ci := 7) (q0 := 0) rfl rfl) hPc hDc hG) rfl rfl hl.1 rfl (lv_room (Nat.le_of_ble_eq_true rfl)) dX7_tune_36 ⟨Nat.zero_le _, Nat.zero_le _⟩) hP hD hS rfl (fun w' HZ locsZ hw hP hD hS => ?_)
      subst hw
      have hP : va_P E.1 vwCl [(x, .inr (7, [.ref ms, .ref mp, .int (nI (rcS pz)), .ref mt, .int (nI len), .ref md, .int (nI sp), .int q1, .int q2, .int q3, .int q4, .int q5, .int (nI fm)])), (ms, .inl (E.2.1, 265, .inl (fun zz => nI ((va_up M (45 + 4 * s + 0) w) zz)))), (mp, .inl (E.2.1, 1060, .inl (fun zz => nI ((rcP Pa M pz) zz))))] _ := hP
      have hD : va_D AZ [(x, .inr (7, [.ref ms, .ref mp, .int (nI (rcS pz)), .ref mt, .int (nI len), .ref md, .int (nI sp), .int q1, .int q2, .int q3, .int q4, .int q5, .int (nI fm)])), (ms, .inl (E.2.1, 265, .inl (fun zz => nI ((va_up M (45 + 4 * s + 0) w) zz)))), (mp, .inl (E.2.1, 1060, .inl (fun zz => nI ((rcP Pa M pz) zz))))] := hD
      refine lv_iload_n hx hb dX7_tune_39 rfl (lv_at hl 0 rfl) ?_
      exact hret _ _ _ _ _ _ hP hS dX7_tune_40 rfl (Or.inr (⟨s, w, rfl, ⟨rfl, rfl, by omega, by omega, by omega⟩, rfl⟩))
    · -- 13 f
      refine lv_if_ne (tgt := 21) hx hb dX7_tune_16 (by decide) (fun c => absurd c (by decide)) (fun _ => ?_)
      refine lv_iconst (v := (-1)) hx hb dX7_tune_19 (by decide) ?_
      exact hret _ _ _ _ _ _ hP hS dX7_tune_20 rfl (Or.inl ⟨rfl, by intro q; first | exact absurd q (by assumption) | exact absurd q.1 (by assumption) | exact absurd q.2 (by assumption) | exact absurd q.2.1 (by assumption) | exact absurd q.2.2 (by assumption), rfl⟩)
  · -- 1 f
    refine lv_if_eq (tgt := 19) hx hb dX7_tune_4 (by decide) (fun _ => ?_) (fun c => absurd c (by decide))
    refine lv_iconst (v := (-1)) hx hb dX7_tune_19 (by decide) ?_
    exact hret _ _ _ _ _ _ hP hS dX7_tune_20 rfl (Or.inl ⟨rfl, by intro q; first | exact absurd q (by assumption) | exact absurd q.1 (by assumption) | exact absurd q.2 (by assumption) | exact absurd q.2.1 (by assumption) | exact absurd q.2.2 (by assumption), rfl⟩)
set_option maxHeartbeats 1000000 in
set_option maxRecDepth 100000 in
theorem c_X7_press (l : Launch) (E : zE) (x ms mp mt md pz len sp fm : Nat) (q1 q2 q3 q4 q5 a v : Int32) (M Pa Sd : Nat → Nat) (hn : M 0 ≤ 12) (hPb : ∀ i, i < 12 → mP M i ≤ 2400) (hHb : ∀ i, i < 12 → mH M i ≤ 2000) (hprn : ∀ i, i < 4 → mPr M i ≤ M 0) (hpz : pz ≤ 4) : zM l yX7_press wsX7_press ({ frames := 7, cells := 0, slots := 0, locals := 157 }) E [.ref x, .int a, .int v] [(x, .inr (7, [.ref ms, .ref mp, .int (nI pz), .ref mt, .int (nI len), .ref md, .int (nI sp), .int q1, .int q2, .int q3, .int q4, .int q5, .int (nI fm)])), (ms, .inl (E.2.1, 265, .inl (fun zz => nI (M zz)))), (mp, .inl (E.2.1, 1060, .inl (fun zz => nI (Pa zz)))), (md, .inl (E.2.1, 4, .inl (fun zz => nI (Sd zz))))] (fun r w' => (r = (-1) ∧ (¬ ((nI 0 ≤ a ∧ a ≤ nI 3) ∧ (v = nI 0 ∨ (nI 1 ≤ v ∧ v ≤ nI (M 0))))) ∧ w' = [(x, .inr (7, [.ref ms, .ref mp, .int (nI pz), .ref mt, .int (nI len), .ref md, .int (nI sp), .int q1, .int q2, .int q3, .int q4, .int q5, .int (nI fm)])), (ms, .inl (E.2.1, 265, .inl (fun zz => nI (M zz)))), (mp, .inl (E.2.1, 1060, .inl (fun zz => nI (Pa zz)))), (md, .inl (E.2.1, 4, .inl (fun zz => nI (Sd zz))))]) ∨ (∃ (s : Nat) (f : Nat), r = nI (2520 - mSt (mvL (va_up M (45 + 4 * s + 1) f) (sdL M Sd 4) 4) s) ∧ (a = nI s ∧ v = nI f ∧ s < 4 ∧ f ≤ M 0) ∧ w' = [(x, .inr (7, [.ref ms, .ref mp, .int (nI (rcS pz)), .ref mt, .int (nI len), .ref md, .int (nI sp), .int q1, .int q2, .int q3, .int q4, .int q5, .int (nI fm)])), (ms, .inl (E.2.1, 265, .inl (fun zz => nI ((mvL (va_up M (45 + 4 * s + 1) f) (sdL M Sd 4) 4) zz)))), (mp, .inl (E.2.1, 1060, .inl (fun zz => nI ((rcP Pa M pz) zz)))), (md, .inl (E.2.1, 4, .inl (fun zz => nI ((sdL M Sd 4) zz))))])) := by
  refine zM.start (own := RX7) rfl (by decide +kernel) rfl (Nat.le_of_ble_eq_true rfl) (fun _ _ _ => rfl) ?_
  intro pZ eZ sZ mZ argsZ belowZ methZ cZ QZ AZ hF hret HZ locsZ hP hD hS hG ls hl
  obtain ⟨hx, hb, hml, hown, hts⟩ := id hF
  have hl : lv_has ls 3 [(0, .ref x), (1, .int a), (2, .int v)] := hl
  refine lv_iload_n hx hb dX7_press_0 rfl (lv_at hl 1 rfl) ?_
  refine z_rd (fun _ h => h) (va_runS (As := [.int a]) (rest := []) hF (c_X7_isString l E a ) (va_cwS 1 hts gX7_press_X7_isString rfl rfl rfl (by decide +kernel) ⟨Nat.le_of_ble_eq_true rfl, Nat.le_of_ble_eq_true rfl⟩) (z_preR (fun k q h => by simp at h) hG) rfl rfl hl.1 rfl (lv_room (Nat.le_of_ble_eq_true rfl)) dX7_press_1 ⟨Nat.zero_le _, Nat.zero_le _⟩) (fun r1 hr1 => ?_)
  rcases hr1 with ⟨rfl, c2⟩ | ⟨rfl, c2⟩
  · -- 1 t
    have ka := c2
    refine lv_if_eq (tgt := 19) hx hb dX7_press_4 (by decide) (fun c => absurd c (by decide)) (fun _ => ?_)
    refine lv_iload_n hx hb dX7_press_7 rfl (lv_at hl 2 rfl) ?_
    refine lv_if_eq (tgt := 21) hx hb dX7_press_8 (by decide) (fun c3 => ?_) (fun c3 => ?_)
    · -- 8 t
      obtain ⟨f, hf1, hf2, rfl⟩ : ∃ f, 0 ≤ f ∧ f ≤ M 0 ∧ v = nI f := ⟨0, Nat.le_refl _, Nat.zero_le _, by assumption⟩
      obtain ⟨s, hs1, hs2, rfl⟩ := z_ge (by omega) (by omega) ka.1 ka.2
      have hk0 := NK_mv (Sd := Sd) (Sb := M) (pr_up hn hPb hHb hprn (show s < 4 by omega) hf2)
      refine lv_aload_n hx hb dX7_press_21 rfl (lv_at hl 0 rfl) ?_
      have hPc := zP_sub (w := [(x, .inr (7, [.ref ms, .ref mp, .int (nI pz), .ref mt, .int (nI len), .ref md, .int (nI sp), .int q1, .int q2, .int q3, .int q4, .int q5, .int (nI fm)])), (ms, .inl (E.2.1, 265, .inl (fun zz => nI (M zz)))), (mp, .inl (E.2.1, 1060, .inl (fun zz => nI (Pa zz))))]) hP [0, 1, 2] rfl
      have hDc := zD_sub (w := [(x, .inr (7, [.ref ms, .ref mp, .int (nI pz), .ref mt, .int (nI len), .ref md, .int (nI sp), .int q1, .int q2, .int q3, .int q4, .int q5, .int (nI fm)])), (ms, .inl (E.2.1, 265, .inl (fun zz => nI (M zz)))), (mp, .inl (E.2.1, 1060, .inl (fun zz => nI (Pa zz))))]) hD [0, 1, 2] (by decide) rfl
      refine z_vd [0, 1, 2] (va_runV (As := []) (rest := []) hF (c_X7_records l E x ms mp mt md pz len sp fm q1 q2 q3 q4 q5 M Pa (by first | assumption | omega)) (cwV 0 hts gX7_press_X7_records rfl rfl rfl (by decide +kernel) ⟨Nat.le_of_ble_eq_true rfl, Nat.le_of_ble_eq_true rfl⟩) (z_preMV (va_recv hG.1 hP (ci := 7) (q0 := 0) rfl rfl) hPc hDc hG) rfl rfl hl.1 rfl (lv_room (Nat.le_of_ble_eq_true rfl)) dX7_press_22 ⟨Nat.zero_le _, Nat.zero_le _⟩) hP hD hS rfl (fun w' HZ locsZ hw hP hD hS => ?_)
      subst hw
      have hP : va_P E.1 vwCl [(x, .inr (7, [.ref ms, .ref mp, .int (nI (rcS pz)), .ref mt, .int (nI len), .ref md, .int (nI sp), .int q1, .int q2, .int q3, .int q4, .int q5, .int (nI fm)])), (ms, .inl (E.2.1, 265, .inl (fun zz => nI (M zz)))), (mp, .inl (E.2.1, 1060, .inl (fun zz => nI ((rcP Pa M pz) zz)))), (md, .inl (E.2.1, 4, .inl (fun zz => nI (Sd zz))))] _ := hP
      have hD : va_D AZ [(x, .inr (7, [.ref ms, .ref mp, .int (nI (rcS pz)), .ref mt, .int (nI len), .ref md, .int (nI sp), .int q1, .int q2, .int q3, .int q4, .int q5, .int (nI fm)])), (ms, .inl (E.2.1, 265, .inl (fun zz => nI (M zz)))), (mp, .inl (E.2.1, 1060, .inl (fun zz => nI ((rcP Pa M pz) zz)))), (md, .inl (E.2.1, 4, .inl (fun zz => nI (Sd zz))))] := hD
      refine lv_aload_n hx hb dX7_press_25 rfl (lv_at hl 0 rfl) ?_
      refine lv_iload_n hx hb dX7_press_26 rfl (lv_at hl 1 rfl) ?_
      refine lv_iload_n hx hb dX7_press_27 rfl (lv_at hl 2 rfl) ?_
      have hPc := zP_sub (w := [(x, .inr (7, [.ref ms, .ref mp, .int (nI (rcS pz)), .ref mt, .int (nI len), .ref md, .int (nI sp), .int q1, .int q2, .int q3, .int q4, .int q5, .int (nI fm)])), (ms, .inl (E.2.1, 265, .inl (fun zz => nI (M zz)))), (md, .inl (E.2.1, 4, .inl (fun zz => nI (Sd zz))))]) hP [0, 1, 3] rfl
      have hDc := zD_sub (w := [(x, .inr (7, [.ref ms, .ref mp, .int (nI (rcS pz)), .ref mt, .int (nI len), .ref md, .int (nI sp), .int q1, .int q2, .int q3, .int q4, .int q5, .int (nI fm)])), (ms, .inl (E.2.1, 265, .inl (fun zz => nI (M zz)))), (md, .inl (E.2.1, 4, .inl (fun zz => nI (Sd zz))))]) hD [0, 1, 3] (by decide) rfl
      refine z_vd [0, 1, 3] (va_runV (As := [.int (nI s), .int (nI f)]) (rest := []) hF (c_X7_presses l E x ms mp mt md (rcS pz) len sp fm s f q1 q2 q3 q4 q5 M Sd (by first | assumption | omega) (by first | assumption | omega) (by first | assumption | omega) (by first | assumption | omega) (by first | assumption | omega) (by first | assumption | omega)) (cwV 2 hts gX7_press_X7_presses rfl rfl rfl (by decide +kernel) ⟨Nat.le_of_ble_eq_true rfl, Nat.le_of_ble_eq_true rfl⟩) (z_preMV (va_recv hG.1 hP (ci := 7) (q0 := 0) rfl rfl) hPc hDc hG) rfl rfl hl.1 rfl (lv_room (Nat.le_of_ble_eq_true rfl)) dX7_press_28 ⟨Nat.zero_le _, Nat.zero_le _⟩) hP hD hS rfl (fun w' HZ locsZ hw hP hD hS => ?_)
      subst hw
      have hP : va_P E.1 vwCl [(x, .inr (7, [.ref ms, .ref mp, .int (nI (rcS pz)), .ref mt, .int (nI len), .ref md, .int (nI sp), .int q1, .int q2, .int q3, .int q4, .int q5, .int (nI fm)])), (ms, .inl (E.2.1, 265, .inl (fun zz => nI ((mvL (va_up M (45 + 4 * s + 1) f) (sdL M Sd 4) 4) zz)))), (mp, .inl (E.2.1, 1060, .inl (fun zz => nI ((rcP Pa M pz) zz)))), (md, .inl (E.2.1, 4, .inl (fun zz => nI ((sdL M Sd 4) zz))))] _ := hP
      have hD : va_D AZ [(x, .inr (7, [.ref ms, .ref mp, .int (nI (rcS pz)), .ref mt, .int (nI len), .ref md, .int (nI sp), .int q1, .int q2, .int q3, .int q4, .int q5, .int (nI fm)])), (ms, .inl (E.2.1, 265, .inl (fun zz => nI ((mvL (va_up M (45 + 4 * s + 1) f) (sdL M Sd 4) 4) zz)))), (mp, .inl (E.2.1, 1060, .inl (fun zz => nI ((rcP Pa M pz) zz)))), (md, .inl (E.2.1, 4, .inl (fun zz => nI ((sdL M Sd 4) zz))))] := hD
      refine lv_aload_n hx hb dX7_press_31 rfl (lv_at hl 0 rfl) ?_
      refine lv_iload_n hx hb dX7_press_32 rfl (lv_at hl 1 rfl) ?_
      have hPc := zP_sub (w := [(x, .inr (7, [.ref ms, .ref mp, .int (nI (rcS pz)), .ref mt, .int (nI len), .ref md, .int (nI sp), .int q1, .int q2, .int q3, .int q4, .int q5, .int (nI fm)])), (ms, .inl (E.2.1, 265, .inl (fun zz => nI ((mvL (va_up M (45 + 4 * s + 1) f) (sdL M Sd 4) 4) zz))))]) hP [0, 1] rfl
      refine z_rd (fun _ h => h) (va_runV (As := [.int (nI s)]) (rest := []) hF (c_X7_lengthOf l E x ms mp mt md (rcS pz) len sp fm s q1 q2 q3 q4 q5 (mvL (va_up M (45 + 4 * s + 1) f) (sdL M Sd 4) 4) (hk0.1) (hk0.2.1) (hk0.2.2.1) (hk0.2.2.2) (by omega)) (cwV 1 hts gX7_press_X7_lengthOf rfl rfl rfl (by decide +kernel) ⟨Nat.le_of_ble_eq_true rfl, Nat.le_of_ble_eq_true rfl⟩) (z_preRV (va_recv hG.1 hP (ci := 7) (q0 := 0) rfl rfl) hPc hG) rfl rfl hl.1 rfl (lv_room (Nat.le_of_ble_eq_true rfl)) dX7_press_33 ⟨Nat.zero_le _, Nat.zero_le _⟩) (fun r4 hr4 => ?_)
      subst hr4
      exact hret _ _ _ _ _ _ hP hS dX7_press_36 rfl (Or.inr (⟨s, f, rfl, ⟨rfl, rfl, by omega, by omega⟩, rfl⟩))
    · -- 8 f
      refine lv_aload_n hx hb dX7_press_11 rfl (lv_at hl 0 rfl) ?_
      refine lv_iload_n hx hb dX7_press_12 rfl (lv_at hl 2 rfl) ?_
      have hPc := zP_sub (w := [(x, .inr (7, [.ref ms, .ref mp, .int (nI pz), .ref mt, .int (nI len), .ref md, .int (nI sp), .int q1, .int q2, .int q3, .int q4, .int q5, .int (nI fm)])), (ms, .inl (E.2.1, 265, .inl (fun zz => nI (M zz))))]) hP [0, 1] rfl
      refine z_rd (fun _ h => h) (va_runV (As := [.int v]) (rest := []) hF (c_X7_isFret l E x ms mp mt md pz len sp fm q1 q2 q3 q4 q5 v M ) (cwV 1 hts gX7_press_X7_isFret rfl rfl rfl (by decide +kernel) ⟨Nat.le_of_ble_eq_true rfl, Nat.le_of_ble_eq_true rfl⟩) (z_preRV (va_recv hG.1 hP (ci := 7) (q0 := 0) rfl rfl) hPc hG) rfl rfl hl.1 rfl (lv_room (Nat.le_of_ble_eq_true rfl)) dX7_press_13 ⟨Nat.zero_le _, Nat.zero_le _⟩) (fun r5 hr5 => ?_)
      rcases hr5 with ⟨rfl, c6⟩ | ⟨rfl, c6⟩
      · -- 13 t
        obtain ⟨f, hf1, hf2, rfl⟩ := z_ge (by omega) (by omega) c6.1 c6.2
        obtain ⟨s, hs1, hs2, rfl⟩ := z_ge (by omega) (by omega) ka.1 ka.2
        have hk0 := NK_mv (Sd := Sd) (Sb := M) (pr_up hn hPb hHb hprn (show s < 4 by omega) hf2)
        refine lv_if_ne (tgt := 21) hx hb dX7_press_16 (by decide) (fun _ => ?_) (fun c => absurd c (by decide))
        refine lv_aload_n hx hb dX7_press_21 rfl (lv_at hl 0 rfl) ?_
        have hPc := zP_sub (w := [(x, .inr (7, [.ref ms, .ref mp, .int (nI pz), .ref mt, .int (nI len), .ref md, .int (nI sp), .int q1, .int q2, .int q3, .int q4, .int q5, .int (nI fm)])), (ms, .inl (E.2.1, 265, .inl (fun zz => nI (M zz)))), (mp, .inl (E.2.1, 1060, .inl (fun zz => nI (Pa zz))))]) hP [0, 1, 2] rfl
        have hDc := zD_sub (w := [(x, .inr (7, [.ref ms, .ref mp, .int (nI pz), .ref mt, .int (nI len), .ref md, .int (nI sp), .int q1, .int q2, .int q3, .int q4, .int q5, .int (nI fm)])), (ms, .inl (E.2.1, 265, .inl (fun zz => nI (M zz)))), (mp, .inl (E.2.1, 1060, .inl (fun zz => nI (Pa zz))))]) hD [0, 1, 2] (by decide) rfl
        refine z_vd [0, 1, 2] (va_runV (As := []) (rest := []) hF (c_X7_records l E x ms mp mt md pz len sp fm q1 q2 q3 q4 q5 M Pa (by first | assumption | omega)) (cwV 0 hts gX7_press_X7_records rfl rfl rfl (by decide +kernel) ⟨Nat.le_of_ble_eq_true rfl, Nat.le_of_ble_eq_true rfl⟩) (z_preMV (va_recv hG.1 hP (ci := 7) (q0 := 0) rfl rfl) hPc hDc hG) rfl rfl hl.1 rfl (lv_room (Nat.le_of_ble_eq_true rfl)) dX7_press_22 ⟨Nat.zero_le _, Nat.zero_le _⟩) hP hD hS rfl (fun w' HZ locsZ hw hP hD hS => ?_)
        subst hw
        have hP : va_P E.1 vwCl [(x, .inr (7, [.ref ms, .ref mp, .int (nI (rcS pz)), .ref mt, .int (nI len), .ref md, .int (nI sp), .int q1, .int q2, .int q3, .int q4, .int q5, .int (nI fm)])), (ms, .inl (E.2.1, 265, .inl (fun zz => nI (M zz)))), (mp, .inl (E.2.1, 1060, .inl (fun zz => nI ((rcP Pa M pz) zz)))), (md, .inl (E.2.1, 4, .inl (fun zz => nI (Sd zz))))] _ := hP
        have hD : va_D AZ [(x, .inr (7, [.ref ms, .ref mp, .int (nI (rcS pz)), .ref mt, .int (nI len), .ref md, .int (nI sp), .int q1, .int q2, .int q3, .int q4, .int q5, .int (nI fm)])), (ms, .inl (E.2.1, 265, .inl (fun zz => nI (M zz)))), (mp, .inl (E.2.1, 1060, .inl (fun zz => nI ((rcP Pa M pz) zz)))), (md, .inl (E.2.1, 4, .inl (fun zz => nI (Sd zz))))] := hD
        refine lv_aload_n hx hb dX7_press_25 rfl (lv_at hl 0 rfl) ?_
        refine lv_iload_n hx hb dX7_press_26 rfl (lv_at hl 1 rfl) ?_
        refine lv_iload_n hx hb dX7_press_27 rfl (lv_at hl 2 rfl) ?_
        have hPc := zP_sub (w := [(x, .inr (7, [.ref ms, .ref mp, .int (nI (rcS pz)), .ref mt, .int (nI len), .ref md, .int (nI sp), .int q1, .int q2, .int q3, .int q4, .int q5, .int (nI fm)])), (ms, .inl (E.2.1, 265, .inl (fun zz => nI (M zz)))), (md, .inl (E.2.1, 4, .inl (fun zz => nI (Sd zz))))]) hP [0, 1, 3] rfl
        have hDc := zD_sub (w := [(x, .inr (7, [.ref ms, .ref mp, .int (nI (rcS pz)), .ref mt, .int (nI len), .ref md, .int (nI sp), .int q1, .int q2, .int q3, .int q4, .int q5, .int (nI fm)])), (ms, .inl (E.2.1, 265, .inl (fun zz => nI (M zz)))), (md, .inl (E.2.1, 4, .inl (fun zz => nI (Sd zz))))]) hD [0, 1, 3] (by decide) rfl
        refine z_vd [0, 1, 3] (va_runV (As := [.int (nI s), .int (nI f)]) (rest := []) hF (c_X7_presses l E x ms mp mt md (rcS pz) len sp fm s f q1 q2 q3 q4 q5 M Sd (by first | assumption | omega) (by first | assumption | omega) (by first | assumption | omega) (by first | assumption | omega) (by first | assumption | omega) (by first | assumption | omega)) (cwV 2 hts gX7_press_X7_presses rfl rfl rfl (by decide +kernel) ⟨Nat.le_of_ble_eq_true rfl, Nat.le_of_ble_eq_true rfl⟩) (z_preMV (va_recv hG.1 hP (ci := 7) (q0 := 0) rfl rfl) hPc hDc hG) rfl rfl hl.1 rfl (lv_room (Nat.le_of_ble_eq_true rfl)) dX7_press_28 ⟨Nat.zero_le _, Nat.zero_le _⟩) hP hD hS rfl (fun w' HZ locsZ hw hP hD hS => ?_)
        subst hw
        have hP : va_P E.1 vwCl [(x, .inr (7, [.ref ms, .ref mp, .int (nI (rcS pz)), .ref mt, .int (nI len), .ref md, .int (nI sp), .int q1, .int q2, .int q3, .int q4, .int q5, .int (nI fm)])), (ms, .inl (E.2.1, 265, .inl (fun zz => nI ((mvL (va_up M (45 + 4 * s + 1) f) (sdL M Sd 4) 4) zz)))), (mp, .inl (E.2.1, 1060, .inl (fun zz => nI ((rcP Pa M pz) zz)))), (md, .inl (E.2.1, 4, .inl (fun zz => nI ((sdL M Sd 4) zz))))] _ := hP
        have hD : va_D AZ [(x, .inr (7, [.ref ms, .ref mp, .int (nI (rcS pz)), .ref mt, .int (nI len), .ref md, .int (nI sp), .int q1, .int q2, .int q3, .int q4, .int q5, .int (nI fm)])), (ms, .inl (E.2.1, 265, .inl (fun zz => nI ((mvL (va_up M (45 + 4 * s + 1) f) (sdL M Sd 4) 4) zz)))), (mp, .inl (E.2.1, 1060, .inl (fun zz => nI ((rcP Pa M pz) zz)))), (md, .inl (E.2.1, 4, .inl (fun zz => nI ((sdL M Sd 4) zz))))] := hD
        refine lv_aload_n hx hb dX7_press_31 rfl (lv_at hl 0 rfl) ?_
        refine lv_iload_n hx hb dX7_press_32 rfl (lv_at hl 1 rfl) ?_
        have hPc := zP_sub (w := [(x, .inr (7, [.ref ms, .ref mp, .int (nI (rcS pz)), .ref mt, .int (nI len), .ref md, .int (nI sp), .int q1, .int q2, .int q3, .int q4, .int q5, .int (nI fm)])), (ms, .inl (E.2.1, 265, .inl (fun zz => nI ((mvL (va_up M (45 + 4 * s + 1) f) (sdL M Sd 4) 4) zz))))]) hP [0, 1] rfl
        refine z_rd (fun _ h => h) (va_runV (As := [.int (nI s)]) (rest := []) hF (c_X7_lengthOf l E x ms mp mt md (rcS pz) len sp fm s q1 q2 q3 q4 q5 (mvL (va_up M (45 + 4 * s + 1) f) (sdL M Sd 4) 4) (hk0.1) (hk0.2.1) (hk0.2.2.1) (hk0.2.2.2) (by omega)) (cwV 1 hts gX7_press_X7_lengthOf rfl rfl rfl (by decide +kernel) ⟨Nat.le_of_ble_eq_true rfl, Nat.le_of_ble_eq_true rfl⟩) (z_preRV (va_recv hG.1 hP (ci := 7) (q0 := 0) rfl rfl) hPc hG) rfl rfl hl.1 rfl (lv_room (Nat.le_of_ble_eq_true rfl)) dX7_press_33 ⟨Nat.zero_le _, Nat.zero_le _⟩) (fun r7 hr7 => ?_)
        subst hr7
        exact hret _ _ _ _ _ _ hP hS dX7_press_36 rfl (Or.inr (⟨s, f, rfl, ⟨rfl, rfl, by omega, by omega⟩, rfl⟩))
      · -- 13 f
        refine lv_if_ne (tgt := 21) hx hb dX7_press_16 (by decide) (fun c => absurd c (by decide)) (fun _ => ?_)
        refine lv_iconst (v := (-1)) hx hb dX7_press_19 (by decide) ?_
        exact hret _ _ _ _ _ _ hP hS dX7_press_20 rfl (Or.inl ⟨rfl, by intro q; first | exact absurd q.1 (by assumption) | exact q.2.elim (fun q2 => absurd q2 (by assumption)) (fun q2 => absurd q2 (by assumption)), rfl⟩)
  · -- 1 f
    refine lv_if_eq (tgt := 19) hx hb dX7_press_4 (by decide) (fun _ => ?_) (fun c => absurd c (by decide))
    refine lv_iconst (v := (-1)) hx hb dX7_press_19 (by decide) ?_
    exact hret _ _ _ _ _ _ hP hS dX7_press_20 rfl (Or.inl ⟨rfl, by intro q; first | exact absurd q.1 (by assumption) | exact q.2.elim (fun q2 => absurd q2 (by assumption)) (fun q2 => absurd q2 (by assumption)), rfl⟩)
set_option maxHeartbeats 1000000 in
set_option maxRecDepth 100000 in
theorem c_X7_touch (l : Launch) (E : zE) (x ms mp mt md pz len sp fm : Nat) (q1 q2 q3 q4 q5 a v : Int32) (M Pa : Nat → Nat) (hpz : pz ≤ 4) : zM l yX7_touch wsX7_touch ({ frames := 2, cells := 0, slots := 0, locals := 42 }) E [.ref x, .int a, .int v] [(x, .inr (7, [.ref ms, .ref mp, .int (nI pz), .ref mt, .int (nI len), .ref md, .int (nI sp), .int q1, .int q2, .int q3, .int q4, .int q5, .int (nI fm)])), (ms, .inl (E.2.1, 265, .inl (fun zz => nI (M zz)))), (mp, .inl (E.2.1, 1060, .inl (fun zz => nI (Pa zz))))] (fun r w' => (r = (-1) ∧ (¬ ((nI 0 ≤ a ∧ a ≤ nI 3) ∧ (nI 0 ≤ v ∧ v ≤ nI 2519))) ∧ w' = [(x, .inr (7, [.ref ms, .ref mp, .int (nI pz), .ref mt, .int (nI len), .ref md, .int (nI sp), .int q1, .int q2, .int q3, .int q4, .int q5, .int (nI fm)])), (ms, .inl (E.2.1, 265, .inl (fun zz => nI (M zz)))), (mp, .inl (E.2.1, 1060, .inl (fun zz => nI (Pa zz))))]) ∨ (∃ (s : Nat) (w : Nat), r = nI (M (45 + 4 * s + 2)) ∧ (a = nI s ∧ v = nI w ∧ s < 4 ∧ w ≤ 2519) ∧ w' = [(x, .inr (7, [.ref ms, .ref mp, .int (nI (rcS pz)), .ref mt, .int (nI len), .ref md, .int (nI sp), .int q1, .int q2, .int q3, .int q4, .int q5, .int (nI fm)])), (ms, .inl (E.2.1, 265, .inl (fun zz => nI ((va_up M (45 + 4 * s + 2) w) zz)))), (mp, .inl (E.2.1, 1060, .inl (fun zz => nI ((rcP Pa M pz) zz))))])) := by
  refine zM.start (own := RX7) rfl (by decide +kernel) rfl (Nat.le_of_ble_eq_true rfl) (fun _ _ _ => rfl) ?_
  intro pZ eZ sZ mZ argsZ belowZ methZ cZ QZ AZ hF hret HZ locsZ hP hD hS hG ls hl
  obtain ⟨hx, hb, hml, hown, hts⟩ := id hF
  have hl : lv_has ls 4 [(0, .ref x), (1, .int a), (2, .int v)] := hl
  refine lv_iload_n hx hb dX7_touch_0 rfl (lv_at hl 1 rfl) ?_
  refine z_rd (fun _ h => h) (va_runS (As := [.int a]) (rest := []) hF (c_X7_isString l E a ) (va_cwS 1 hts gX7_touch_X7_isString rfl rfl rfl (by decide +kernel) ⟨Nat.le_of_ble_eq_true rfl, Nat.le_of_ble_eq_true rfl⟩) (z_preR (fun k q h => by simp at h) hG) rfl rfl hl.1 rfl (lv_room (Nat.le_of_ble_eq_true rfl)) dX7_touch_1 ⟨Nat.zero_le _, Nat.zero_le _⟩) (fun r1 hr1 => ?_)
  rcases hr1 with ⟨rfl, c2⟩ | ⟨rfl, c2⟩
  · -- 1 t
    have ka := c2
    refine lv_if_eq (tgt := 18) hx hb dX7_touch_4 (by decide) (fun c => absurd c (by decide)) (fun _ => ?_)
    refine lv_iload_n hx hb dX7_touch_7 rfl (lv_at hl 2 rfl) ?_
    refine lv_iconst (v := nI 0) hx hb dX7_touch_8 (by decide) ?_
    refine lv_sipush (v := nI 2519) hx hb dX7_touch_9 (by decide) ?_
    refine z_rd (fun _ h => h) (va_runS (As := [.int v, .int (nI 0), .int (nI 2519)]) (rest := []) hF (c_X7_in l E v (nI 0) (nI 2519) ) (va_cwS 3 hts gX7_touch_X7_in rfl rfl rfl (by decide +kernel) ⟨Nat.le_of_ble_eq_true rfl, Nat.le_of_ble_eq_true rfl⟩) (z_preR (fun k q h => by simp at h) hG) rfl rfl hl.1 rfl (lv_room (Nat.le_of_ble_eq_true rfl)) dX7_touch_12 ⟨Nat.zero_le _, Nat.zero_le _⟩) (fun r3 hr3 => ?_)
    rcases hr3 with ⟨rfl, c4⟩ | ⟨rfl, c4⟩
    · -- 12 t
      obtain ⟨s, hs1, hs2, rfl⟩ := z_ge (by omega) (by omega) ka.1 ka.2
      obtain ⟨w, hw1, hw2, rfl⟩ := z_ge (by omega) (by omega) c4.1 c4.2
      refine lv_if_ne (tgt := 20) hx hb dX7_touch_15 (by decide) (fun _ => ?_) (fun c => absurd c (by decide))
      refine lv_aload_n hx hb dX7_touch_20 rfl (lv_at hl 0 rfl) ?_
      have hPc := zP_sub (w := [(x, .inr (7, [.ref ms, .ref mp, .int (nI pz), .ref mt, .int (nI len), .ref md, .int (nI sp), .int q1, .int q2, .int q3, .int q4, .int q5, .int (nI fm)])), (ms, .inl (E.2.1, 265, .inl (fun zz => nI (M zz)))), (mp, .inl (E.2.1, 1060, .inl (fun zz => nI (Pa zz))))]) hP [0, 1, 2] rfl
      have hDc := zD_sub (w := [(x, .inr (7, [.ref ms, .ref mp, .int (nI pz), .ref mt, .int (nI len), .ref md, .int (nI sp), .int q1, .int q2, .int q3, .int q4, .int q5, .int (nI fm)])), (ms, .inl (E.2.1, 265, .inl (fun zz => nI (M zz)))), (mp, .inl (E.2.1, 1060, .inl (fun zz => nI (Pa zz))))]) hD [0, 1, 2] (by decide) rfl
      refine z_vd [0, 1, 2] (va_runV (As := []) (rest := []) hF (c_X7_records l E x ms mp mt md pz len sp fm q1 q2 q3 q4 q5 M Pa (by first | assumption | omega)) (cwV 0 hts gX7_touch_X7_records rfl rfl rfl (by decide +kernel) ⟨Nat.le_of_ble_eq_true rfl, Nat.le_of_ble_eq_true rfl⟩) (z_preMV (va_recv hG.1 hP (ci := 7) (q0 := 0) rfl rfl) hPc hDc hG) rfl rfl hl.1 rfl (lv_room (Nat.le_of_ble_eq_true rfl)) dX7_touch_21 ⟨Nat.zero_le _, Nat.zero_le _⟩) hP hD hS rfl (fun w' HZ locsZ hw hP hD hS => ?_)
      subst hw
      have hP : va_P E.1 vwCl [(x, .inr (7, [.ref ms, .ref mp, .int (nI (rcS pz)), .ref mt, .int (nI len), .ref md, .int (nI sp), .int q1, .int q2, .int q3, .int q4, .int q5, .int (nI fm)])), (ms, .inl (E.2.1, 265, .inl (fun zz => nI (M zz)))), (mp, .inl (E.2.1, 1060, .inl (fun zz => nI ((rcP Pa M pz) zz))))] _ := hP
      have hD : va_D AZ [(x, .inr (7, [.ref ms, .ref mp, .int (nI (rcS pz)), .ref mt, .int (nI len), .ref md, .int (nI sp), .int q1, .int q2, .int q3, .int q4, .int q5, .int (nI fm)])), (ms, .inl (E.2.1, 265, .inl (fun zz => nI (M zz)))), (mp, .inl (E.2.1, 1060, .inl (fun zz => nI ((rcP Pa M pz) zz))))] := hD
      refine lv_aload_n hx hb dX7_touch_24 rfl (lv_at hl 0 rfl) ?_
      refine lv_iload_n hx hb dX7_touch_25 rfl (lv_at hl 1 rfl) ?_
      refine lv_iconst (v := nI 2) hx hb dX7_touch_26 (by decide) ?_
      have hPc := zP_sub (w := [(x, .inr (7, [.ref ms, .ref mp, .int (nI (rcS pz)), .ref mt, .int (nI len), .ref md, .int (nI sp), .int q1, .int q2, .int q3, .int q4, .int q5, .int (nI fm)])), (ms, .inl (E.2.1, 265, .inl (fun zz => nI (M zz))))]) hP [0, 1] rfl
      refine z_rd (fun _ h => h) (va_runV (As := [.int (nI s), .int (nI 2)]) (rest := []) hF (c_X7_of l E x ms mp mt md (rcS pz) len sp fm s 2 q1 q2 q3 q4 q5 M (by first | assumption | omega) (by first | assumption | omega)) (cwV 2 hts gX7_touch_X7_of rfl rfl rfl (by decide +kernel) ⟨Nat.le_of_ble_eq_true rfl, Nat.le_of_ble_eq_true rfl⟩) (z_preRV (va_recv hG.1 hP (ci := 7) (q0 := 0) rfl rfl) hPc hG) rfl rfl hl.1 rfl (lv_room (Nat.le_of_ble_eq_true rfl)) dX7_touch_27 ⟨Nat.zero_le _, Nat.zero_le _⟩) (fun r5 hr5 => ?_)
      subst hr5
      refine lv_istore_n (lv' := [(3, .int (nI (M (45 + 4 * s + 2)))), (0, .ref x), (1, .int (nI s)), (2, .int (nI w))]) hx hb dX7_touch_30 rfl hl (by decide) rfl (fun ls hl => ?_)
      refine lv_aload_n hx hb dX7_touch_31 rfl (lv_at hl 1 rfl) ?_
      refine lv_iload_n hx hb dX7_touch_32 rfl (lv_at hl 2 rfl) ?_
      refine lv_iconst (v := nI 2) hx hb dX7_touch_33 (by decide) ?_
      refine lv_iload_n hx hb dX7_touch_34 rfl (lv_at hl 3 rfl) ?_
      have hPc := zP_sub (w := [(x, .inr (7, [.ref ms, .ref mp, .int (nI (rcS pz)), .ref mt, .int (nI len), .ref md, .int (nI sp), .int q1, .int q2, .int q3, .int q4, .int q5, .int (nI fm)])), (ms, .inl (E.2.1, 265, .inl (fun zz => nI (M zz))))]) hP [0, 1] rfl
      have hDc := zD_sub (w := [(x, .inr (7, [.ref ms, .ref mp, .int (nI (rcS pz)), .ref mt, .int (nI len), .ref md, .int (nI sp), .int q1, .int q2, .int q3, .int q4, .int q5, .int (nI fm)])), (ms, .inl (E.2.1, 265, .inl (fun zz => nI (M zz))))]) hD [0, 1] (by decide) rfl
      refine z_vd [0, 1] (va_runV (As := [.int (nI s), .int (nI 2), .int (nI w)]) (rest := []) hF (c_X7_puts l E x ms mp mt md (rcS pz) len sp fm s 2 w q1 q2 q3 q4 q5 M (by first | assumption | omega) (by first | assumption | omega)) (cwV 3 hts gX7_touch_X7_puts rfl rfl rfl (by decide +kernel) ⟨Nat.le_of_ble_eq_true rfl, Nat.le_of_ble_eq_true rfl⟩) (z_preMV (va_recv hG.1 hP (ci := 7) (q0 := 0) rfl rfl) hPc hDc hG) rfl rfl hl.1 rfl (lv_room (Nat.le_of_ble_eq_true rfl)) dX7_touch_35 ⟨Nat.zero_le _, Nat.zero_le _⟩) hP hD hS rfl (fun w' HZ locsZ hw hP hD hS => ?_)
      subst hw
      have hP : va_P E.1 vwCl [(x, .inr (7, [.ref ms, .ref mp, .int (nI (rcS pz)), .ref mt, .int (nI len), .ref md, .int (nI sp), .int q1, .int q2, .int q3, .int q4, .int q5, .int (nI fm)])), (ms, .inl (E.2.1, 265, .inl (fun zz => nI ((va_up M (45 + 4 * s + 2) w) zz)))), (mp, .inl (E.2.1, 1060, .inl (fun zz => nI ((rcP Pa M pz) zz))))] _ := hP
      have hD : va_D AZ [(x, .inr (7, [.ref ms, .ref mp, .int (nI (rcS pz)), .ref mt, .int (nI len), .ref md, .int (nI sp), .int q1, .int q2, .int q3, .int q4, .int q5, .int (nI fm)])), (ms, .inl (E.2.1, 265, .inl (fun zz => nI ((va_up M (45 + 4 * s + 2) w) zz)))), (mp, .inl (E.2.1, 1060, .inl (fun zz => nI ((rcP Pa M pz) zz))))] := hD
      refine lv_iload_n hx hb dX7_touch_38 rfl (lv_at hl 0 rfl) ?_
      exact hret _ _ _ _ _ _ hP hS dX7_touch_39 rfl (Or.inr (⟨s, w, rfl, ⟨rfl, rfl, by omega, by omega⟩, rfl⟩))
    · -- 12 f
      refine lv_if_ne (tgt := 20) hx hb dX7_touch_15 (by decide) (fun c => absurd c (by decide)) (fun _ => ?_)
      refine lv_iconst (v := (-1)) hx hb dX7_touch_18 (by decide) ?_
      exact hret _ _ _ _ _ _ hP hS dX7_touch_19 rfl (Or.inl ⟨rfl, by intro q; first | exact absurd q (by assumption) | exact absurd q.1 (by assumption) | exact absurd q.2 (by assumption) | exact absurd q.2.1 (by assumption) | exact absurd q.2.2 (by assumption), rfl⟩)
  · -- 1 f
    refine lv_if_eq (tgt := 18) hx hb dX7_touch_4 (by decide) (fun _ => ?_) (fun c => absurd c (by decide))
    refine lv_iconst (v := (-1)) hx hb dX7_touch_18 (by decide) ?_
    exact hret _ _ _ _ _ _ hP hS dX7_touch_19 rfl (Or.inl ⟨rfl, by intro q; first | exact absurd q (by assumption) | exact absurd q.1 (by assumption) | exact absurd q.2 (by assumption) | exact absurd q.2.1 (by assumption) | exact absurd q.2.2 (by assumption), rfl⟩)
set_option maxHeartbeats 1000000 in
set_option maxRecDepth 100000 in
theorem c_X7_pluck (l : Launch) (E : zE) (x ms mp mt md pz len sp fm : Nat) (q1 q2 q3 q4 q5 a v u : Int32) (M Pa Sd : Nat → Nat) (hn : M 0 ≤ 12) (hPb : ∀ i, i < 12 → mP M i ≤ 2400) (hHb : ∀ i, i < 12 → mH M i ≤ 2000) (hprn : ∀ i, i < 4 → mPr M i ≤ M 0) (hpz : pz ≤ 4) (hse4 : M 8 ≤ 100000) (ham : ∀ i, i < 48 → mAm M i ≤ 1000000) (hWb : ∀ i, i < 12 → mW M i ≤ 800000000) (h52 : M 3 ≤ 52) (hnew : ∀ s, s < 4 → ntF M s (mPr M s) (M 3) 0 = M 3 → M 3 < 52) (hnb : ∀ i, i < 156 → M (109 + i) ≤ 1000000000) (hper : 1 ≤ M 7 ∧ M 7 ≤ 1000000) : zM l yX7_pluck wsX7_pluck ({ frames := 7, cells := 0, slots := 0, locals := 164 }) E [.ref x, .int a, .int v, .int u] [(x, .inr (7, [.ref ms, .ref mp, .int (nI pz), .ref mt, .int (nI len), .ref md, .int (nI sp), .int q1, .int q2, .int q3, .int q4, .int q5, .int (nI fm)])), (ms, .inl (E.2.1, 265, .inl (fun zz => nI (M zz)))), (mp, .inl (E.2.1, 1060, .inl (fun zz => nI (Pa zz)))), (md, .inl (E.2.1, 4, .inl (fun zz => nI (Sd zz))))] (fun r w' => (r = (-1) ∧ (¬ ((nI 0 ≤ a ∧ a ≤ nI 3) ∧ (nI 1 ≤ v ∧ v ≤ nI 2519) ∧ (nI 1 ≤ u ∧ u ≤ nI 1000))) ∧ w' = [(x, .inr (7, [.ref ms, .ref mp, .int (nI pz), .ref mt, .int (nI len), .ref md, .int (nI sp), .int q1, .int q2, .int q3, .int q4, .int q5, .int (nI fm)])), (ms, .inl (E.2.1, 265, .inl (fun zz => nI (M zz)))), (mp, .inl (E.2.1, 1060, .inl (fun zz => nI (Pa zz)))), (md, .inl (E.2.1, 4, .inl (fun zz => nI (Sd zz))))]) ∨ (∃ (s : Nat) (y : Nat) (q : Nat), r = (-2) ∧ (a = nI s ∧ v = nI y ∧ u = nI q ∧ s < 4 ∧ 1 ≤ y ∧ y ≤ 2519 ∧ 1 ≤ q ∧ q ≤ 1000 ∧ y ≤ mSt M s) ∧ w' = [(x, .inr (7, [.ref ms, .ref mp, .int (nI pz), .ref mt, .int (nI len), .ref md, .int (nI sp), .int q1, .int q2, .int q3, .int q4, .int q5, .int (nI fm)])), (ms, .inl (E.2.1, 265, .inl (fun zz => nI (M zz)))), (mp, .inl (E.2.1, 1060, .inl (fun zz => nI (Pa zz)))), (md, .inl (E.2.1, 4, .inl (fun zz => nI (Sd zz))))]) ∨ (∃ (s : Nat) (y : Nat) (q : Nat), r = nI (popc (mhL (mAm (pk6 M Sd s y q)) (M 8) s 12)) ∧ (a = nI s ∧ v = nI y ∧ u = nI q ∧ s < 4 ∧ 1 ≤ y ∧ y ≤ 2519 ∧ 1 ≤ q ∧ q ≤ 1000 ∧ mSt M s < y) ∧ w' = [(x, .inr (7, [.ref ms, .ref mp, .int (nI (rcS pz)), .ref mt, .int (nI len), .ref md, .int (nI sp), .int q1, .int q2, .int q3, .int q4, .int q5, .int (nI fm)])), (ms, .inl (E.2.1, 265, .inl (fun zz => nI ((pk6 M Sd s y q) zz)))), (mp, .inl (E.2.1, 1060, .inl (fun zz => nI ((rcP Pa M pz) zz)))), (md, .inl (E.2.1, 4, .inl (fun zz => nI ((pkS M Sd s y q) zz))))])) := by
  refine zM.start (own := RX7) rfl (by decide +kernel) rfl (Nat.le_of_ble_eq_true rfl) (fun _ _ _ => rfl) ?_
  intro pZ eZ sZ mZ argsZ belowZ methZ cZ QZ AZ hF hret HZ locsZ hP hD hS hG ls hl
  obtain ⟨hx, hb, hml, hown, hts⟩ := id hF
  have hl : lv_has ls 4 [(0, .ref x), (1, .int a), (2, .int v), (3, .int u)] := hl
  refine lv_iload_n hx hb dX7_pluck_0 rfl (lv_at hl 1 rfl) ?_
  refine z_rd (fun _ h => h) (va_runS (As := [.int a]) (rest := []) hF (c_X7_isString l E a ) (va_cwS 1 hts gX7_pluck_X7_isString rfl rfl rfl (by decide +kernel) ⟨Nat.le_of_ble_eq_true rfl, Nat.le_of_ble_eq_true rfl⟩) (z_preR (fun k q h => by simp at h) hG) rfl rfl hl.1 rfl (lv_room (Nat.le_of_ble_eq_true rfl)) dX7_pluck_1 ⟨Nat.zero_le _, Nat.zero_le _⟩) (fun r1 hr1 => ?_)
  rcases hr1 with ⟨rfl, c2⟩ | ⟨rfl, c2⟩
  · -- 1 t
    have ka := c2
    refine lv_if_eq (tgt := 29) hx hb dX7_pluck_4 (by decide) (fun c => absurd c (by decide)) (fun _ => ?_)
    refine lv_iload_n hx hb dX7_pluck_7 rfl (lv_at hl 2 rfl) ?_
    refine lv_iconst (v := nI 1) hx hb dX7_pluck_8 (by decide) ?_
    refine lv_sipush (v := nI 2519) hx hb dX7_pluck_9 (by decide) ?_
    refine z_rd (fun _ h => h) (va_runS (As := [.int v, .int (nI 1), .int (nI 2519)]) (rest := []) hF (c_X7_in l E v (nI 1) (nI 2519) ) (va_cwS 3 hts gX7_pluck_X7_in rfl rfl rfl (by decide +kernel) ⟨Nat.le_of_ble_eq_true rfl, Nat.le_of_ble_eq_true rfl⟩) (z_preR (fun k q h => by simp at h) hG) rfl rfl hl.1 rfl (lv_room (Nat.le_of_ble_eq_true rfl)) dX7_pluck_12 ⟨Nat.zero_le _, Nat.zero_le _⟩) (fun r3 hr3 => ?_)
    rcases hr3 with ⟨rfl, c4⟩ | ⟨rfl, c4⟩
    · -- 12 t
      have kv := c4
      refine lv_if_eq (tgt := 29) hx hb dX7_pluck_15 (by decide) (fun c => absurd c (by decide)) (fun _ => ?_)
      refine lv_iload_n hx hb dX7_pluck_18 rfl (lv_at hl 3 rfl) ?_
      refine lv_iconst (v := nI 1) hx hb dX7_pluck_19 (by decide) ?_
      refine lv_sipush (v := nI 1000) hx hb dX7_pluck_20 (by decide) ?_
      refine z_rd (fun _ h => h) (va_runS (As := [.int u, .int (nI 1), .int (nI 1000)]) (rest := []) hF (c_X7_in l E u (nI 1) (nI 1000) ) (va_cwS 3 hts gX7_pluck_X7_in rfl rfl rfl (by decide +kernel) ⟨Nat.le_of_ble_eq_true rfl, Nat.le_of_ble_eq_true rfl⟩) (z_preR (fun k q h => by simp at h) hG) rfl rfl hl.1 rfl (lv_room (Nat.le_of_ble_eq_true rfl)) dX7_pluck_23 ⟨Nat.zero_le _, Nat.zero_le _⟩) (fun r5 hr5 => ?_)
      rcases hr5 with ⟨rfl, c6⟩ | ⟨rfl, c6⟩
      · -- 23 t
        obtain ⟨s, hs1, hs2, rfl⟩ := z_ge (by omega) (by omega) ka.1 ka.2
        obtain ⟨y, hy1, hy2, rfl⟩ := z_ge (by omega) (by omega) kv.1 kv.2
        obtain ⟨q, hq1, hq2, rfl⟩ := z_ge (by omega) (by omega) c6.1 c6.2
        have hsb : mSt M s ≤ 2400 := mSt_le hn hPb hprn (by omega)
        have hk0 : NK M := ⟨hn, hPb, hHb, hprn⟩
        refine lv_if_ne (tgt := 31) hx hb dX7_pluck_26 (by decide) (fun _ => ?_) (fun c => absurd c (by decide))
        refine lv_iload_n hx hb dX7_pluck_31 rfl (lv_at hl 2 rfl) ?_
        refine lv_aload_n hx hb dX7_pluck_32 rfl (lv_at hl 0 rfl) ?_
        refine lv_iload_n hx hb dX7_pluck_33 rfl (lv_at hl 1 rfl) ?_
        have hPc := zP_sub (w := [(x, .inr (7, [.ref ms, .ref mp, .int (nI pz), .ref mt, .int (nI len), .ref md, .int (nI sp), .int q1, .int q2, .int q3, .int q4, .int q5, .int (nI fm)])), (ms, .inl (E.2.1, 265, .inl (fun zz => nI (M zz))))]) hP [0, 1] rfl
        refine z_rd (fun _ h => h) (va_runV (As := [.int (nI s)]) (rest := [.int (nI y)]) hF (c_X7_positionOf l E x ms mp mt md pz len sp fm s q1 q2 q3 q4 q5 M (by first | assumption | omega) (by first | assumption | omega) (by first | assumption | omega) (by first | assumption | omega) (by first | assumption | omega)) (cwV 1 hts gX7_pluck_X7_positionOf rfl rfl rfl (by decide +kernel) ⟨Nat.le_of_ble_eq_true rfl, Nat.le_of_ble_eq_true rfl⟩) (z_preRV (va_recv hG.1 hP (ci := 7) (q0 := 0) rfl rfl) hPc hG) rfl rfl hl.1 rfl (lv_room (Nat.le_of_ble_eq_true rfl)) dX7_pluck_34 ⟨Nat.zero_le _, Nat.zero_le _⟩) (fun r7 hr7 => ?_)
        subst hr7
        refine z_icmp_gt (a := y) (b := mSt M s) (tgt := 43) hx hb dX7_pluck_37 (by decide) (by omega) (by omega) (fun c8 => ?_) (fun c8 => ?_)
        · -- 37 t
          refine lv_aload_n hx hb dX7_pluck_43 rfl (lv_at hl 0 rfl) ?_
          have hPc := zP_sub (w := [(x, .inr (7, [.ref ms, .ref mp, .int (nI pz), .ref mt, .int (nI len), .ref md, .int (nI sp), .int q1, .int q2, .int q3, .int q4, .int q5, .int (nI fm)])), (ms, .inl (E.2.1, 265, .inl (fun zz => nI (M zz)))), (mp, .inl (E.2.1, 1060, .inl (fun zz => nI (Pa zz))))]) hP [0, 1, 2] rfl
          have hDc := zD_sub (w := [(x, .inr (7, [.ref ms, .ref mp, .int (nI pz), .ref mt, .int (nI len), .ref md, .int (nI sp), .int q1, .int q2, .int q3, .int q4, .int q5, .int (nI fm)])), (ms, .inl (E.2.1, 265, .inl (fun zz => nI (M zz)))), (mp, .inl (E.2.1, 1060, .inl (fun zz => nI (Pa zz))))]) hD [0, 1, 2] (by decide) rfl
          refine z_vd [0, 1, 2] (va_runV (As := []) (rest := []) hF (c_X7_records l E x ms mp mt md pz len sp fm q1 q2 q3 q4 q5 M Pa (by first | assumption | omega)) (cwV 0 hts gX7_pluck_X7_records rfl rfl rfl (by decide +kernel) ⟨Nat.le_of_ble_eq_true rfl, Nat.le_of_ble_eq_true rfl⟩) (z_preMV (va_recv hG.1 hP (ci := 7) (q0 := 0) rfl rfl) hPc hDc hG) rfl rfl hl.1 rfl (lv_room (Nat.le_of_ble_eq_true rfl)) dX7_pluck_44 ⟨Nat.zero_le _, Nat.zero_le _⟩) hP hD hS rfl (fun w' HZ locsZ hw hP hD hS => ?_)
          subst hw
          have hP : va_P E.1 vwCl [(x, .inr (7, [.ref ms, .ref mp, .int (nI (rcS pz)), .ref mt, .int (nI len), .ref md, .int (nI sp), .int q1, .int q2, .int q3, .int q4, .int q5, .int (nI fm)])), (ms, .inl (E.2.1, 265, .inl (fun zz => nI (M zz)))), (mp, .inl (E.2.1, 1060, .inl (fun zz => nI ((rcP Pa M pz) zz)))), (md, .inl (E.2.1, 4, .inl (fun zz => nI (Sd zz))))] _ := hP
          have hD : va_D AZ [(x, .inr (7, [.ref ms, .ref mp, .int (nI (rcS pz)), .ref mt, .int (nI len), .ref md, .int (nI sp), .int q1, .int q2, .int q3, .int q4, .int q5, .int (nI fm)])), (ms, .inl (E.2.1, 265, .inl (fun zz => nI (M zz)))), (mp, .inl (E.2.1, 1060, .inl (fun zz => nI ((rcP Pa M pz) zz)))), (md, .inl (E.2.1, 4, .inl (fun zz => nI (Sd zz))))] := hD
          refine lv_aload_n hx hb dX7_pluck_47 rfl (lv_at hl 0 rfl) ?_
          refine lv_iload_n hx hb dX7_pluck_48 rfl (lv_at hl 1 rfl) ?_
          refine lv_iload_n hx hb dX7_pluck_49 rfl (lv_at hl 2 rfl) ?_
          refine lv_iload_n hx hb dX7_pluck_50 rfl (lv_at hl 3 rfl) ?_
          have hPc := zP_sub (w := [(x, .inr (7, [.ref ms, .ref mp, .int (nI (rcS pz)), .ref mt, .int (nI len), .ref md, .int (nI sp), .int q1, .int q2, .int q3, .int q4, .int q5, .int (nI fm)])), (ms, .inl (E.2.1, 265, .inl (fun zz => nI (M zz)))), (md, .inl (E.2.1, 4, .inl (fun zz => nI (Sd zz))))]) hP [0, 1, 3] rfl
          have hDc := zD_sub (w := [(x, .inr (7, [.ref ms, .ref mp, .int (nI (rcS pz)), .ref mt, .int (nI len), .ref md, .int (nI sp), .int q1, .int q2, .int q3, .int q4, .int q5, .int (nI fm)])), (ms, .inl (E.2.1, 265, .inl (fun zz => nI (M zz)))), (md, .inl (E.2.1, 4, .inl (fun zz => nI (Sd zz))))]) hD [0, 1, 3] (by decide) rfl
          refine z_vd [0, 1, 3] (va_runV (As := [.int (nI s), .int (nI y), .int (nI q)]) (rest := []) hF (c_X7_plucks l E x ms mp mt md (rcS pz) len sp fm s y q q1 q2 q3 q4 q5 M Sd (by first | assumption | omega) (by first | assumption | omega) (by first | assumption | omega) (by first | assumption | omega) (by first | assumption | omega) (by first | assumption | omega) (by first | assumption | omega) (by first | assumption | omega) (by first | assumption | omega) (by first | assumption | omega) (by first | assumption | omega) (hnew s (by omega)) (by first | assumption | omega) (by first | assumption | omega)) (cwV 3 hts gX7_pluck_X7_plucks rfl rfl rfl (by decide +kernel) ⟨Nat.le_of_ble_eq_true rfl, Nat.le_of_ble_eq_true rfl⟩) (z_preMV (va_recv hG.1 hP (ci := 7) (q0 := 0) rfl rfl) hPc hDc hG) rfl rfl hl.1 rfl (lv_room (Nat.le_of_ble_eq_true rfl)) dX7_pluck_51 ⟨Nat.zero_le _, Nat.zero_le _⟩) hP hD hS rfl (fun w' HZ locsZ hw hP hD hS => ?_)
          subst hw
          have hP : va_P E.1 vwCl [(x, .inr (7, [.ref ms, .ref mp, .int (nI (rcS pz)), .ref mt, .int (nI len), .ref md, .int (nI sp), .int q1, .int q2, .int q3, .int q4, .int q5, .int (nI fm)])), (ms, .inl (E.2.1, 265, .inl (fun zz => nI ((pk6 M Sd s y q) zz)))), (mp, .inl (E.2.1, 1060, .inl (fun zz => nI ((rcP Pa M pz) zz)))), (md, .inl (E.2.1, 4, .inl (fun zz => nI ((pkS M Sd s y q) zz))))] _ := hP
          have hD : va_D AZ [(x, .inr (7, [.ref ms, .ref mp, .int (nI (rcS pz)), .ref mt, .int (nI len), .ref md, .int (nI sp), .int q1, .int q2, .int q3, .int q4, .int q5, .int (nI fm)])), (ms, .inl (E.2.1, 265, .inl (fun zz => nI ((pk6 M Sd s y q) zz)))), (mp, .inl (E.2.1, 1060, .inl (fun zz => nI ((rcP Pa M pz) zz)))), (md, .inl (E.2.1, 4, .inl (fun zz => nI ((pkS M Sd s y q) zz))))] := hD
          refine lv_aload_n hx hb dX7_pluck_54 rfl (lv_at hl 0 rfl) ?_
          refine lv_iload_n hx hb dX7_pluck_55 rfl (lv_at hl 1 rfl) ?_
          have hPc := zP_sub (w := [(x, .inr (7, [.ref ms, .ref mp, .int (nI (rcS pz)), .ref mt, .int (nI len), .ref md, .int (nI sp), .int q1, .int q2, .int q3, .int q4, .int q5, .int (nI fm)])), (ms, .inl (E.2.1, 265, .inl (fun zz => nI ((pk6 M Sd s y q) zz))))]) hP [0, 1] rfl
          refine z_rd (fun _ h => h) (va_runV (As := [.int (nI s)]) (rest := []) hF (c_X7_heardOf l E x ms mp mt md (rcS pz) len sp fm s q1 q2 q3 q4 q5 (pk6 M Sd s y q) (by omega) (pk6_am (by omega) hk0 ham) (by rw [pk6_8 (by omega) hk0]; assumption)) (cwV 1 hts gX7_pluck_X7_heardOf rfl rfl rfl (by decide +kernel) ⟨Nat.le_of_ble_eq_true rfl, Nat.le_of_ble_eq_true rfl⟩) (z_preRV (va_recv hG.1 hP (ci := 7) (q0 := 0) rfl rfl) hPc hG) rfl rfl hl.1 rfl (lv_room (Nat.le_of_ble_eq_true rfl)) dX7_pluck_56 ⟨Nat.zero_le _, Nat.zero_le _⟩) (fun r9 hr9 => ?_)
          subst hr9
          have e10 : mhL (mAm (pk6 M Sd s y q)) ((pk6 M Sd s y q) 8) s 12 = mhL (mAm (pk6 M Sd s y q)) (M 8) s 12 := by rw [pk6_8 (by omega) hk0]
          rw [e10]
          refine z_rd (fun _ h => h) (va_runS (As := [.int (nI (mhL (mAm (pk6 M Sd s y q)) (M 8) s 12))]) (rest := []) hF (c_X7_bits l E (mhL (mAm (pk6 M Sd s y q)) (M 8) s 12) (mhL_lt _ _ _ 12)) (va_cwS 1 hts gX7_pluck_X7_bits rfl rfl rfl (by decide +kernel) ⟨Nat.le_of_ble_eq_true rfl, Nat.le_of_ble_eq_true rfl⟩) (z_preR (fun k q h => by simp at h) hG) rfl rfl hl.1 rfl (lv_room (Nat.le_of_ble_eq_true rfl)) dX7_pluck_59 ⟨Nat.zero_le _, Nat.zero_le _⟩) (fun r11 hr11 => ?_)
          subst hr11
          exact hret _ _ _ _ _ _ hP hS dX7_pluck_62 rfl (Or.inr (Or.inr (⟨s, y, q, rfl, ⟨rfl, rfl, rfl, by omega, by omega, by omega, by omega, by omega, by omega⟩, rfl⟩)))
        · -- 37 f
          refine lv_bipush (v := (-2)) hx hb dX7_pluck_40 (by decide) ?_
          exact hret _ _ _ _ _ _ hP hS dX7_pluck_42 rfl (Or.inr (Or.inl ⟨s, y, q, rfl, ⟨rfl, rfl, rfl, by omega, by omega, by omega, by omega, by omega, by omega⟩, rfl⟩))
      · -- 23 f
        refine lv_if_ne (tgt := 31) hx hb dX7_pluck_26 (by decide) (fun c => absurd c (by decide)) (fun _ => ?_)
        refine lv_iconst (v := (-1)) hx hb dX7_pluck_29 (by decide) ?_
        exact hret _ _ _ _ _ _ hP hS dX7_pluck_30 rfl (Or.inl ⟨rfl, by intro q; first | exact absurd q (by assumption) | exact absurd q.1 (by assumption) | exact absurd q.2 (by assumption) | exact absurd q.2.1 (by assumption) | exact absurd q.2.2 (by assumption), rfl⟩)
    · -- 12 f
      refine lv_if_eq (tgt := 29) hx hb dX7_pluck_15 (by decide) (fun _ => ?_) (fun c => absurd c (by decide))
      refine lv_iconst (v := (-1)) hx hb dX7_pluck_29 (by decide) ?_
      exact hret _ _ _ _ _ _ hP hS dX7_pluck_30 rfl (Or.inl ⟨rfl, by intro q; first | exact absurd q (by assumption) | exact absurd q.1 (by assumption) | exact absurd q.2 (by assumption) | exact absurd q.2.1 (by assumption) | exact absurd q.2.2 (by assumption), rfl⟩)
  · -- 1 f
    refine lv_if_eq (tgt := 29) hx hb dX7_pluck_4 (by decide) (fun _ => ?_) (fun c => absurd c (by decide))
    refine lv_iconst (v := (-1)) hx hb dX7_pluck_29 (by decide) ?_
    exact hret _ _ _ _ _ _ hP hS dX7_pluck_30 rfl (Or.inl ⟨rfl, by intro q; first | exact absurd q (by assumption) | exact absurd q.1 (by assumption) | exact absurd q.2 (by assumption) | exact absurd q.2.1 (by assumption) | exact absurd q.2.2 (by assumption), rfl⟩)
set_option maxHeartbeats 1000000 in
set_option maxRecDepth 100000 in
theorem c_X7_damp (l : Launch) (E : zE) (x ms mp mt md pz len sp fm : Nat) (q1 q2 q3 q4 q5 a : Int32) (M Pa : Nat → Nat) (hpz : pz ≤ 4) (ham : ∀ i, i < 48 → mAm M i ≤ 1000000) (hse4 : M 8 ≤ 100000) : zM l yX7_damp wsX7_damp ({ frames := 3, cells := 0, slots := 0, locals := 68 }) E [.ref x, .int a] [(x, .inr (7, [.ref ms, .ref mp, .int (nI pz), .ref mt, .int (nI len), .ref md, .int (nI sp), .int q1, .int q2, .int q3, .int q4, .int q5, .int (nI fm)])), (ms, .inl (E.2.1, 265, .inl (fun zz => nI (M zz)))), (mp, .inl (E.2.1, 1060, .inl (fun zz => nI (Pa zz))))] (fun r w' => (r = (-1) ∧ (¬ (nI 0 ≤ a ∧ a ≤ nI 3)) ∧ w' = [(x, .inr (7, [.ref ms, .ref mp, .int (nI pz), .ref mt, .int (nI len), .ref md, .int (nI sp), .int q1, .int q2, .int q3, .int q4, .int q5, .int (nI fm)])), (ms, .inl (E.2.1, 265, .inl (fun zz => nI (M zz)))), (mp, .inl (E.2.1, 1060, .inl (fun zz => nI (Pa zz))))]) ∨ (∃ (s : Nat), r = nI (popc (mhL (mAm M) (M 8) s 12)) ∧ (a = nI s ∧ s < 4) ∧ w' = [(x, .inr (7, [.ref ms, .ref mp, .int (nI (rcS pz)), .ref mt, .int (nI len), .ref md, .int (nI sp), .int q1, .int q2, .int q3, .int q4, .int q5, .int (nI fm)])), (ms, .inl (E.2.1, 265, .inl (fun zz => nI ((mq M s 12) zz)))), (mp, .inl (E.2.1, 1060, .inl (fun zz => nI ((rcP Pa M pz) zz))))])) := by
  refine zM.start (own := RX7) rfl (by decide +kernel) rfl (Nat.le_of_ble_eq_true rfl) (fun _ _ _ => rfl) ?_
  intro pZ eZ sZ mZ argsZ belowZ methZ cZ QZ AZ hF hret HZ locsZ hP hD hS hG ls hl
  obtain ⟨hx, hb, hml, hown, hts⟩ := id hF
  have hl : lv_has ls 3 [(0, .ref x), (1, .int a)] := hl
  refine lv_iload_n hx hb dX7_damp_0 rfl (lv_at hl 1 rfl) ?_
  refine z_rd (fun _ h => h) (va_runS (As := [.int a]) (rest := []) hF (c_X7_isString l E a ) (va_cwS 1 hts gX7_damp_X7_isString rfl rfl rfl (by decide +kernel) ⟨Nat.le_of_ble_eq_true rfl, Nat.le_of_ble_eq_true rfl⟩) (z_preR (fun k q h => by simp at h) hG) rfl rfl hl.1 rfl (lv_room (Nat.le_of_ble_eq_true rfl)) dX7_damp_1 ⟨Nat.zero_le _, Nat.zero_le _⟩) (fun r1 hr1 => ?_)
  rcases hr1 with ⟨rfl, c2⟩ | ⟨rfl, c2⟩
  · -- 1 t
    obtain ⟨s, hs1, hs2, rfl⟩ := z_ge (by omega) (by omega) c2.1 c2.2
    refine lv_if_ne (tgt := 9) hx hb dX7_damp_4 (by decide) (fun _ => ?_) (fun c => absurd c (by decide))
    refine lv_aload_n hx hb dX7_damp_9 rfl (lv_at hl 0 rfl) ?_
    have hPc := zP_sub (w := [(x, .inr (7, [.ref ms, .ref mp, .int (nI pz), .ref mt, .int (nI len), .ref md, .int (nI sp), .int q1, .int q2, .int q3, .int q4, .int q5, .int (nI fm)])), (ms, .inl (E.2.1, 265, .inl (fun zz => nI (M zz)))), (mp, .inl (E.2.1, 1060, .inl (fun zz => nI (Pa zz))))]) hP [0, 1, 2] rfl
    have hDc := zD_sub (w := [(x, .inr (7, [.ref ms, .ref mp, .int (nI pz), .ref mt, .int (nI len), .ref md, .int (nI sp), .int q1, .int q2, .int q3, .int q4, .int q5, .int (nI fm)])), (ms, .inl (E.2.1, 265, .inl (fun zz => nI (M zz)))), (mp, .inl (E.2.1, 1060, .inl (fun zz => nI (Pa zz))))]) hD [0, 1, 2] (by decide) rfl
    refine z_vd [0, 1, 2] (va_runV (As := []) (rest := []) hF (c_X7_records l E x ms mp mt md pz len sp fm q1 q2 q3 q4 q5 M Pa (by first | assumption | omega)) (cwV 0 hts gX7_damp_X7_records rfl rfl rfl (by decide +kernel) ⟨Nat.le_of_ble_eq_true rfl, Nat.le_of_ble_eq_true rfl⟩) (z_preMV (va_recv hG.1 hP (ci := 7) (q0 := 0) rfl rfl) hPc hDc hG) rfl rfl hl.1 rfl (lv_room (Nat.le_of_ble_eq_true rfl)) dX7_damp_10 ⟨Nat.zero_le _, Nat.zero_le _⟩) hP hD hS rfl (fun w' HZ locsZ hw hP hD hS => ?_)
    subst hw
    have hP : va_P E.1 vwCl [(x, .inr (7, [.ref ms, .ref mp, .int (nI (rcS pz)), .ref mt, .int (nI len), .ref md, .int (nI sp), .int q1, .int q2, .int q3, .int q4, .int q5, .int (nI fm)])), (ms, .inl (E.2.1, 265, .inl (fun zz => nI (M zz)))), (mp, .inl (E.2.1, 1060, .inl (fun zz => nI ((rcP Pa M pz) zz))))] _ := hP
    have hD : va_D AZ [(x, .inr (7, [.ref ms, .ref mp, .int (nI (rcS pz)), .ref mt, .int (nI len), .ref md, .int (nI sp), .int q1, .int q2, .int q3, .int q4, .int q5, .int (nI fm)])), (ms, .inl (E.2.1, 265, .inl (fun zz => nI (M zz)))), (mp, .inl (E.2.1, 1060, .inl (fun zz => nI ((rcP Pa M pz) zz))))] := hD
    refine lv_aload_n hx hb dX7_damp_13 rfl (lv_at hl 0 rfl) ?_
    refine lv_iload_n hx hb dX7_damp_14 rfl (lv_at hl 1 rfl) ?_
    have hPc := zP_sub (w := [(x, .inr (7, [.ref ms, .ref mp, .int (nI (rcS pz)), .ref mt, .int (nI len), .ref md, .int (nI sp), .int q1, .int q2, .int q3, .int q4, .int q5, .int (nI fm)])), (ms, .inl (E.2.1, 265, .inl (fun zz => nI (M zz))))]) hP [0, 1] rfl
    refine z_rd (fun _ h => h) (va_runV (As := [.int (nI s)]) (rest := []) hF (c_X7_heardOf l E x ms mp mt md (rcS pz) len sp fm s q1 q2 q3 q4 q5 M (by first | assumption | omega) (by first | assumption | omega) (by first | assumption | omega)) (cwV 1 hts gX7_damp_X7_heardOf rfl rfl rfl (by decide +kernel) ⟨Nat.le_of_ble_eq_true rfl, Nat.le_of_ble_eq_true rfl⟩) (z_preRV (va_recv hG.1 hP (ci := 7) (q0 := 0) rfl rfl) hPc hG) rfl rfl hl.1 rfl (lv_room (Nat.le_of_ble_eq_true rfl)) dX7_damp_15 ⟨Nat.zero_le _, Nat.zero_le _⟩) (fun r3 hr3 => ?_)
    subst hr3
    refine z_rd (fun _ h => h) (va_runS (As := [.int (nI (mhL (mAm M) (M 8) s 12))]) (rest := []) hF (c_X7_bits l E (mhL (mAm M) (M 8) s 12) (mhL_lt _ _ _ 12)) (va_cwS 1 hts gX7_damp_X7_bits rfl rfl rfl (by decide +kernel) ⟨Nat.le_of_ble_eq_true rfl, Nat.le_of_ble_eq_true rfl⟩) (z_preR (fun k q h => by simp at h) hG) rfl rfl hl.1 rfl (lv_room (Nat.le_of_ble_eq_true rfl)) dX7_damp_18 ⟨Nat.zero_le _, Nat.zero_le _⟩) (fun r4 hr4 => ?_)
    subst hr4
    refine lv_istore_n (lv' := [(2, .int (nI (popc (mhL (mAm M) (M 8) s 12)))), (0, .ref x), (1, .int (nI s))]) hx hb dX7_damp_21 rfl hl (by decide) rfl (fun ls hl => ?_)
    refine lv_aload_n hx hb dX7_damp_22 rfl (lv_at hl 1 rfl) ?_
    refine lv_iload_n hx hb dX7_damp_23 rfl (lv_at hl 2 rfl) ?_
    have hPc := zP_sub (w := [(x, .inr (7, [.ref ms, .ref mp, .int (nI (rcS pz)), .ref mt, .int (nI len), .ref md, .int (nI sp), .int q1, .int q2, .int q3, .int q4, .int q5, .int (nI fm)])), (ms, .inl (E.2.1, 265, .inl (fun zz => nI (M zz))))]) hP [0, 1] rfl
    have hDc := zD_sub (w := [(x, .inr (7, [.ref ms, .ref mp, .int (nI (rcS pz)), .ref mt, .int (nI len), .ref md, .int (nI sp), .int q1, .int q2, .int q3, .int q4, .int q5, .int (nI fm)])), (ms, .inl (E.2.1, 265, .inl (fun zz => nI (M zz))))]) hD [0, 1] (by decide) rfl
    refine z_vd [0, 1] (va_runV (As := [.int (nI s)]) (rest := []) hF (c_X7_rests l E x ms mp mt md (rcS pz) len sp fm s q1 q2 q3 q4 q5 M (by first | assumption | omega)) (cwV 1 hts gX7_damp_X7_rests rfl rfl rfl (by decide +kernel) ⟨Nat.le_of_ble_eq_true rfl, Nat.le_of_ble_eq_true rfl⟩) (z_preMV (va_recv hG.1 hP (ci := 7) (q0 := 0) rfl rfl) hPc hDc hG) rfl rfl hl.1 rfl (lv_room (Nat.le_of_ble_eq_true rfl)) dX7_damp_24 ⟨Nat.zero_le _, Nat.zero_le _⟩) hP hD hS rfl (fun w' HZ locsZ hw hP hD hS => ?_)
    subst hw
    have hP : va_P E.1 vwCl [(x, .inr (7, [.ref ms, .ref mp, .int (nI (rcS pz)), .ref mt, .int (nI len), .ref md, .int (nI sp), .int q1, .int q2, .int q3, .int q4, .int q5, .int (nI fm)])), (ms, .inl (E.2.1, 265, .inl (fun zz => nI ((mq M s 12) zz)))), (mp, .inl (E.2.1, 1060, .inl (fun zz => nI ((rcP Pa M pz) zz))))] _ := hP
    have hD : va_D AZ [(x, .inr (7, [.ref ms, .ref mp, .int (nI (rcS pz)), .ref mt, .int (nI len), .ref md, .int (nI sp), .int q1, .int q2, .int q3, .int q4, .int q5, .int (nI fm)])), (ms, .inl (E.2.1, 265, .inl (fun zz => nI ((mq M s 12) zz)))), (mp, .inl (E.2.1, 1060, .inl (fun zz => nI ((rcP Pa M pz) zz))))] := hD
    refine lv_iload_n hx hb dX7_damp_27 rfl (lv_at hl 0 rfl) ?_
    exact hret _ _ _ _ _ _ hP hS dX7_damp_28 rfl (Or.inr (⟨s, rfl, ⟨rfl, by omega⟩, rfl⟩))
  · -- 1 f
    refine lv_if_ne (tgt := 9) hx hb dX7_damp_4 (by decide) (fun c => absurd c (by decide)) (fun _ => ?_)
    refine lv_iconst (v := (-1)) hx hb dX7_damp_7 (by decide) ?_
    exact hret _ _ _ _ _ _ hP hS dX7_damp_8 rfl (Or.inl ⟨rfl, by assumption, rfl⟩)
