set_option maxHeartbeats 1000000 in
set_option maxRecDepth 100000 in
theorem c_X7_fretInfo (l : Launch) (E : zE) (x ms mp mt md pz len sp fm : Nat) (q1 q2 q3 q4 q5 a v : Int32) (M : Nat → Nat) (hn : M 0 ≤ 12) (hPb : ∀ i, i < 12 → mP M i ≤ 2400) (hHb : ∀ i, i < 12 → mH M i ≤ 2000) (hprn : ∀ i, i < 4 → mPr M i ≤ M 0) : zR l yX7_fretInfo wsX7_fretInfo ({ frames := 5, cells := 0, slots := 0, locals := 117 }) E [.ref x, .int a, .int v] [(x, .inr (7, [.ref ms, .ref mp, .int (nI pz), .ref mt, .int (nI len), .ref md, .int (nI sp), .int q1, .int q2, .int q3, .int q4, .int q5, .int (nI fm)])), (ms, .inl (E.2.1, 265, .inl (fun zz => nI (M zz))))] (fun r => (r = (-1) ∧ (¬ ((nI 1 ≤ a ∧ a ≤ nI (M 0)) ∧ (nI 0 ≤ v ∧ v ≤ nI 5)))) ∨ (∃ (f : Nat) (w : Nat) (r9 : Int32), r = r9 ∧ (a = nI f ∧ v = nI w ∧ 1 ≤ f ∧ f ≤ M 0 ∧ w ≤ 5 ∧ r9 = fiA M f w))) := by
  refine zR.start (own := RX7) rfl (by decide +kernel) rfl (Nat.le_of_ble_eq_true rfl) (fun _ _ => rfl) ?_
  intro pZ eZ sZ mZ argsZ belowZ methZ cZ QZ hF hret hP hG ls hl
  obtain ⟨hx, hb, hml, hown, hts⟩ := id hF
  have hl : lv_has ls 3 [(0, .ref x), (1, .int a), (2, .int v)] := hl
  refine lv_aload_n hx hb dX7_fretInfo_0 rfl (lv_at hl 0 rfl) ?_
  refine lv_iload_n hx hb dX7_fretInfo_1 rfl (lv_at hl 1 rfl) ?_
  have hPc := zP_sub (w := [(x, .inr (7, [.ref ms, .ref mp, .int (nI pz), .ref mt, .int (nI len), .ref md, .int (nI sp), .int q1, .int q2, .int q3, .int q4, .int q5, .int (nI fm)])), (ms, .inl (E.2.1, 265, .inl (fun zz => nI (M zz))))]) hP [0, 1] rfl
  refine z_rd (fun _ h => h) (va_runV (As := [.int a]) (rest := []) hF (c_X7_isFret l E x ms mp mt md pz len sp fm q1 q2 q3 q4 q5 a M ) (cwV 1 hts gX7_fretInfo_X7_isFret rfl rfl rfl (by decide +kernel) ⟨Nat.le_of_ble_eq_true rfl, Nat.le_of_ble_eq_true rfl⟩) (z_preRV (va_recv hG.1 hP (ci := 7) (q0 := 0) rfl rfl) hPc hG) rfl rfl hl.1 rfl (lv_room (Nat.le_of_ble_eq_true rfl)) dX7_fretInfo_2 ⟨Nat.zero_le _, Nat.zero_le _⟩) (fun r1 hr1 => ?_)
  rcases hr1 with ⟨rfl, c2⟩ | ⟨rfl, c2⟩
  · -- 2 t
    have ka := c2
    refine lv_if_eq (tgt := 17) hx hb dX7_fretInfo_5 (by decide) (fun c => absurd c (by decide)) (fun _ => ?_)
    refine lv_iload_n hx hb dX7_fretInfo_8 rfl (lv_at hl 2 rfl) ?_
    refine lv_iconst (v := nI 0) hx hb dX7_fretInfo_9 (by decide) ?_
    refine lv_iconst (v := nI 5) hx hb dX7_fretInfo_10 (by decide) ?_
    refine z_rd (fun _ h => h) (va_runS (As := [.int v, .int (nI 0), .int (nI 5)]) (rest := []) hF (c_X7_in l E v (nI 0) (nI 5) ) (va_cwS 3 hts gX7_fretInfo_X7_in rfl rfl rfl (by decide +kernel) ⟨Nat.le_of_ble_eq_true rfl, Nat.le_of_ble_eq_true rfl⟩) (z_preR (fun k q h => by simp at h) hG) rfl rfl hl.1 rfl (lv_room (Nat.le_of_ble_eq_true rfl)) dX7_fretInfo_11 ⟨Nat.zero_le _, Nat.zero_le _⟩) (fun r3 hr3 => ?_)
    rcases hr3 with ⟨rfl, c4⟩ | ⟨rfl, c4⟩
    · -- 11 t
      obtain ⟨f, hf1, hf2, rfl⟩ := z_ge (by omega) (by omega) ka.1 ka.2
      obtain ⟨w, hw1, hw2, rfl⟩ := z_ge (by omega) (by omega) c4.1 c4.2
      refine lv_if_ne (tgt := 19) hx hb dX7_fretInfo_14 (by decide) (fun _ => ?_) (fun c => absurd c (by decide))
      refine lv_iload_n hx hb dX7_fretInfo_19 rfl (lv_at hl 2 rfl) ?_
      refine lv_iconst (v := nI 3) hx hb dX7_fretInfo_20 (by decide) ?_
      refine z_icmp_ge (a := w) (b := 3) (tgt := 33) hx hb dX7_fretInfo_21 (by decide) (by omega) (by omega) (fun c5 => ?_) (fun c5 => ?_)
      · -- 21 t
        refine lv_iload_n hx hb dX7_fretInfo_33 rfl (lv_at hl 2 rfl) ?_
        refine lv_iconst (v := nI 5) hx hb dX7_fretInfo_34 (by decide) ?_
        refine z_icmp_ge (a := w) (b := 5) (tgt := 56) hx hb dX7_fretInfo_35 (by decide) (by omega) (by omega) (fun c6 => ?_) (fun c6 => ?_)
        · -- 35 t
          refine lv_aload_n hx hb dX7_fretInfo_56 rfl (lv_at hl 0 rfl) ?_
          refine lv_iload_n hx hb dX7_fretInfo_57 rfl (lv_at hl 1 rfl) ?_
          have hPc := zP_sub (w := [(x, .inr (7, [.ref ms, .ref mp, .int (nI pz), .ref mt, .int (nI len), .ref md, .int (nI sp), .int q1, .int q2, .int q3, .int q4, .int q5, .int (nI fm)])), (ms, .inl (E.2.1, 265, .inl (fun zz => nI (M zz))))]) hP [0, 1] rfl
          refine z_rd (fun _ h => h) (va_runV (As := [.int (nI f)]) (rest := []) hF (c_X7_soundingFret l E x ms mp mt md pz len sp fm f q1 q2 q3 q4 q5 M (by first | assumption | omega) (by first | assumption | omega) (by first | assumption | omega) (by first | assumption | omega)) (cwV 1 hts gX7_fretInfo_X7_soundingFret rfl rfl rfl (by decide +kernel) ⟨Nat.le_of_ble_eq_true rfl, Nat.le_of_ble_eq_true rfl⟩) (z_preRV (va_recv hG.1 hP (ci := 7) (q0 := 0) rfl rfl) hPc hG) rfl rfl hl.1 rfl (lv_room (Nat.le_of_ble_eq_true rfl)) dX7_fretInfo_58 ⟨Nat.zero_le _, Nat.zero_le _⟩) (fun r7 hr7 => ?_)
          subst hr7
          exact hret _ _ _ dX7_fretInfo_61 (Or.inr (⟨f, w, (nI (srcN (mP M) (mH M) (M 0) f)), by first | rfl | (congr 1; omega), ⟨rfl, rfl, by omega, by omega, by omega, by unfold fiA; (repeat' split) <;> first | rfl | (exfalso; omega)⟩⟩))
        · -- 35 f
          refine lv_aload_n hx hb dX7_fretInfo_38 rfl (lv_at hl 0 rfl) ?_
          refine lv_iload_n hx hb dX7_fretInfo_39 rfl (lv_at hl 1 rfl) ?_
          refine lv_iload_n hx hb dX7_fretInfo_40 rfl (lv_at hl 2 rfl) ?_
          refine lv_iconst (v := nI 4) hx hb dX7_fretInfo_41 (by decide) ?_
          refine z_icmp_ne (a := w) (b := 4) (tgt := 49) hx hb dX7_fretInfo_42 (by decide) (by omega) (by omega) (fun c8 => ?_) (fun c8 => ?_)
          · -- 42 t
            refine lv_iconst (v := nI 0) hx hb dX7_fretInfo_49 (by decide) ?_
            have hPc := zP_sub (w := [(x, .inr (7, [.ref ms, .ref mp, .int (nI pz), .ref mt, .int (nI len), .ref md, .int (nI sp), .int q1, .int q2, .int q3, .int q4, .int q5, .int (nI fm)])), (ms, .inl (E.2.1, 265, .inl (fun zz => nI (M zz))))]) hP [0, 1] rfl
            refine z_rd (fun _ h => h) (va_runV (As := [.int (nI f), .int (nI 0)]) (rest := []) hF (c_X7_stringsAt l E x ms mp mt md pz len sp fm f 0 q1 q2 q3 q4 q5 M (by first | assumption | omega) (by first | assumption | omega) (by first | assumption | omega) (by first | assumption | omega) (by first | assumption | omega) (by first | assumption | omega)) (cwV 2 hts gX7_fretInfo_X7_stringsAt rfl rfl rfl (by decide +kernel) ⟨Nat.le_of_ble_eq_true rfl, Nat.le_of_ble_eq_true rfl⟩) (z_preRV (va_recv hG.1 hP (ci := 7) (q0 := 0) rfl rfl) hPc hG) rfl rfl hl.1 rfl (lv_room (Nat.le_of_ble_eq_true rfl)) dX7_fretInfo_50 ⟨Nat.zero_le _, Nat.zero_le _⟩) (fun r9 hr9 => ?_)
            subst hr9
            refine lv_goto (tgt := 61) hx hb dX7_fretInfo_53 (by decide) ?_
            exact hret _ _ _ dX7_fretInfo_61 (Or.inr (⟨f, w, (nI (msL M f 0 4)), by first | rfl | (congr 1; omega), ⟨rfl, rfl, by omega, by omega, by omega, by unfold fiA; (repeat' split) <;> first | rfl | (exfalso; omega)⟩⟩))
          · -- 42 f
            refine lv_iconst (v := nI 1) hx hb dX7_fretInfo_45 (by decide) ?_
            refine lv_goto (tgt := 50) hx hb dX7_fretInfo_46 (by decide) ?_
            have hPc := zP_sub (w := [(x, .inr (7, [.ref ms, .ref mp, .int (nI pz), .ref mt, .int (nI len), .ref md, .int (nI sp), .int q1, .int q2, .int q3, .int q4, .int q5, .int (nI fm)])), (ms, .inl (E.2.1, 265, .inl (fun zz => nI (M zz))))]) hP [0, 1] rfl
            refine z_rd (fun _ h => h) (va_runV (As := [.int (nI f), .int (nI 1)]) (rest := []) hF (c_X7_stringsAt l E x ms mp mt md pz len sp fm f 1 q1 q2 q3 q4 q5 M (by first | assumption | omega) (by first | assumption | omega) (by first | assumption | omega) (by first | assumption | omega) (by first | assumption | omega) (by first | assumption | omega)) (cwV 2 hts gX7_fretInfo_X7_stringsAt rfl rfl rfl (by decide +kernel) ⟨Nat.le_of_ble_eq_true rfl, Nat.le_of_ble_eq_true rfl⟩) (z_preRV (va_recv hG.1 hP (ci := 7) (q0 := 0) rfl rfl) hPc hG) rfl rfl hl.1 rfl (lv_room (Nat.le_of_ble_eq_true rfl)) dX7_fretInfo_50 ⟨Nat.zero_le _, Nat.zero_le _⟩) (fun r10 hr10 => ?_)
            subst hr10
            refine lv_goto (tgt := 61) hx hb dX7_fretInfo_53 (by decide) ?_
            exact hret _ _ _ dX7_fretInfo_61 (Or.inr (⟨f, w, (nI (msL M f 1 4)), by first | rfl | (congr 1; omega), ⟨rfl, rfl, by omega, by omega, by omega, by unfold fiA; (repeat' split) <;> first | rfl | (exfalso; omega)⟩⟩))
      · -- 21 f
        refine lv_aload_n hx hb dX7_fretInfo_24 rfl (lv_at hl 0 rfl) ?_
        refine lv_iload_n hx hb dX7_fretInfo_25 rfl (lv_at hl 1 rfl) ?_
        refine lv_iload_n hx hb dX7_fretInfo_26 rfl (lv_at hl 2 rfl) ?_
        have hPc := zP_sub (w := [(x, .inr (7, [.ref ms, .ref mp, .int (nI pz), .ref mt, .int (nI len), .ref md, .int (nI sp), .int q1, .int q2, .int q3, .int q4, .int q5, .int (nI fm)])), (ms, .inl (E.2.1, 265, .inl (fun zz => nI (M zz))))]) hP [0, 1] rfl
        refine z_rd (fun _ h => h) (va_runV (As := [.int (nI f), .int (nI w)]) (rest := []) hF (c_X7_on l E x ms mp mt md pz len sp fm f w q1 q2 q3 q4 q5 M (by first | assumption | omega) (by first | assumption | omega) (by first | assumption | omega)) (cwV 2 hts gX7_fretInfo_X7_on rfl rfl rfl (by decide +kernel) ⟨Nat.le_of_ble_eq_true rfl, Nat.le_of_ble_eq_true rfl⟩) (z_preRV (va_recv hG.1 hP (ci := 7) (q0 := 0) rfl rfl) hPc hG) rfl rfl hl.1 rfl (lv_room (Nat.le_of_ble_eq_true rfl)) dX7_fretInfo_27 ⟨Nat.zero_le _, Nat.zero_le _⟩) (fun r11 hr11 => ?_)
        subst hr11
        refine lv_goto (tgt := 61) hx hb dX7_fretInfo_30 (by decide) ?_
        exact hret _ _ _ dX7_fretInfo_61 (Or.inr (⟨f, w, (nI (M (9 + 3 * (f - 1) + w))), by first | rfl | (congr 1; omega), ⟨rfl, rfl, by omega, by omega, by omega, by unfold fiA; (repeat' split) <;> first | rfl | (exfalso; omega)⟩⟩))
    · -- 11 f
      refine lv_if_ne (tgt := 19) hx hb dX7_fretInfo_14 (by decide) (fun c => absurd c (by decide)) (fun _ => ?_)
      refine lv_iconst (v := (-1)) hx hb dX7_fretInfo_17 (by decide) ?_
      exact hret _ _ _ dX7_fretInfo_18 (Or.inl ⟨rfl, by intro q; first | exact absurd q (by assumption) | exact absurd q.1 (by assumption) | exact absurd q.2 (by assumption) | exact absurd q.2.1 (by assumption) | exact absurd q.2.2 (by assumption)⟩)
  · -- 2 f
    refine lv_if_eq (tgt := 17) hx hb dX7_fretInfo_5 (by decide) (fun _ => ?_) (fun c => absurd c (by decide))
    refine lv_iconst (v := (-1)) hx hb dX7_fretInfo_17 (by decide) ?_
    exact hret _ _ _ dX7_fretInfo_18 (Or.inl ⟨rfl, by intro q; first | exact absurd q (by assumption) | exact absurd q.1 (by assumption) | exact absurd q.2 (by assumption) | exact absurd q.2.1 (by assumption) | exact absurd q.2.2 (by assumption)⟩)
set_option maxHeartbeats 1000000 in
set_option maxRecDepth 100000 in
theorem c_X7_modeInfo (l : Launch) (E : zE) (x ms mp mt md pz len sp fm : Nat) (q1 q2 q3 q4 q5 a v u : Int32) (M : Nat → Nat) (hn : M 0 ≤ 12) (hPb : ∀ i, i < 12 → mP M i ≤ 2400) (hHb : ∀ i, i < 12 → mH M i ≤ 2000) (hprn : ∀ i, i < 4 → mPr M i ≤ M 0) (hte : ∀ i, i < 4 → mT M i ≤ 100000000) : zR l yX7_modeInfo wsX7_modeInfo ({ frames := 8, cells := 0, slots := 0, locals := 182 }) E [.ref x, .int a, .int v, .int u] [(x, .inr (7, [.ref ms, .ref mp, .int (nI pz), .ref mt, .int (nI len), .ref md, .int (nI sp), .int q1, .int q2, .int q3, .int q4, .int q5, .int (nI fm)])), (ms, .inl (E.2.1, 265, .inl (fun zz => nI (M zz))))] (fun r => (r = (-1) ∧ (¬ ((nI 0 ≤ a ∧ a ≤ nI 3) ∧ (nI 1 ≤ v ∧ v ≤ nI 12) ∧ (nI 0 ≤ u ∧ u ≤ nI 2)))) ∨ (∃ (s : Nat) (n : Nat) (w : Nat) (r9 : Int32), r = r9 ∧ (a = nI s ∧ v = nI n ∧ u = nI w ∧ s < 4 ∧ 1 ≤ n ∧ n ≤ 12 ∧ w ≤ 2 ∧ r9 = miA M s n w))) := by
  refine zR.start (own := RX7) rfl (by decide +kernel) rfl (Nat.le_of_ble_eq_true rfl) (fun _ _ => rfl) ?_
  intro pZ eZ sZ mZ argsZ belowZ methZ cZ QZ hF hret hP hG ls hl
  obtain ⟨hx, hb, hml, hown, hts⟩ := id hF
  have hl : lv_has ls 4 [(0, .ref x), (1, .int a), (2, .int v), (3, .int u)] := hl
  refine lv_iload_n hx hb dX7_modeInfo_0 rfl (lv_at hl 1 rfl) ?_
  refine z_rd (fun _ h => h) (va_runS (As := [.int a]) (rest := []) hF (c_X7_isString l E a ) (va_cwS 1 hts gX7_modeInfo_X7_isString rfl rfl rfl (by decide +kernel) ⟨Nat.le_of_ble_eq_true rfl, Nat.le_of_ble_eq_true rfl⟩) (z_preR (fun k q h => by simp at h) hG) rfl rfl hl.1 rfl (lv_room (Nat.le_of_ble_eq_true rfl)) dX7_modeInfo_1 ⟨Nat.zero_le _, Nat.zero_le _⟩) (fun r1 hr1 => ?_)
  rcases hr1 with ⟨rfl, c2⟩ | ⟨rfl, c2⟩
  · -- 1 t
    have ka := c2
    refine lv_if_eq (tgt := 23) hx hb dX7_modeInfo_4 (by decide) (fun c => absurd c (by decide)) (fun _ => ?_)
    refine lv_iload_n hx hb dX7_modeInfo_7 rfl (lv_at hl 2 rfl) ?_
    refine z_rd (fun _ h => h) (va_runS (As := [.int v]) (rest := []) hF (c_X7_isMode l E v ) (va_cwS 1 hts gX7_modeInfo_X7_isMode rfl rfl rfl (by decide +kernel) ⟨Nat.le_of_ble_eq_true rfl, Nat.le_of_ble_eq_true rfl⟩) (z_preR (fun k q h => by simp at h) hG) rfl rfl hl.1 rfl (lv_room (Nat.le_of_ble_eq_true rfl)) dX7_modeInfo_8 ⟨Nat.zero_le _, Nat.zero_le _⟩) (fun r3 hr3 => ?_)
    rcases hr3 with ⟨rfl, c4⟩ | ⟨rfl, c4⟩
    · -- 8 t
      have kv := c4
      refine lv_if_eq (tgt := 23) hx hb dX7_modeInfo_11 (by decide) (fun c => absurd c (by decide)) (fun _ => ?_)
      refine lv_iload_n hx hb dX7_modeInfo_14 rfl (lv_at hl 3 rfl) ?_
      refine lv_iconst (v := nI 0) hx hb dX7_modeInfo_15 (by decide) ?_
      refine lv_iconst (v := nI 2) hx hb dX7_modeInfo_16 (by decide) ?_
      refine z_rd (fun _ h => h) (va_runS (As := [.int u, .int (nI 0), .int (nI 2)]) (rest := []) hF (c_X7_in l E u (nI 0) (nI 2) ) (va_cwS 3 hts gX7_modeInfo_X7_in rfl rfl rfl (by decide +kernel) ⟨Nat.le_of_ble_eq_true rfl, Nat.le_of_ble_eq_true rfl⟩) (z_preR (fun k q h => by simp at h) hG) rfl rfl hl.1 rfl (lv_room (Nat.le_of_ble_eq_true rfl)) dX7_modeInfo_17 ⟨Nat.zero_le _, Nat.zero_le _⟩) (fun r5 hr5 => ?_)
      rcases hr5 with ⟨rfl, c6⟩ | ⟨rfl, c6⟩
      · -- 17 t
        obtain ⟨s, hs1, hs2, rfl⟩ := z_ge (by omega) (by omega) ka.1 ka.2
        obtain ⟨n, hn1, hn2, rfl⟩ := z_ge (by omega) (by omega) kv.1 kv.2
        obtain ⟨w, hw1, hw2, rfl⟩ := z_ge (by omega) (by omega) c6.1 c6.2
        refine lv_if_ne (tgt := 25) hx hb dX7_modeInfo_20 (by decide) (fun _ => ?_) (fun c => absurd c (by decide))
        refine lv_iload_n hx hb dX7_modeInfo_25 rfl (lv_at hl 3 rfl) ?_
        refine z_if_ne (a := w) (tgt := 38) hx hb dX7_modeInfo_26 (by decide) (by omega) (fun c7 => ?_) (fun c7 => ?_)
        · -- 26 t
          refine lv_iload_n hx hb dX7_modeInfo_38 rfl (lv_at hl 3 rfl) ?_
          refine lv_iconst (v := nI 1) hx hb dX7_modeInfo_39 (by decide) ?_
          refine z_icmp_ne (a := w) (b := 1) (tgt := 52) hx hb dX7_modeInfo_40 (by decide) (by omega) (by omega) (fun c8 => ?_) (fun c8 => ?_)
          · -- 40 t
            refine lv_aload_n hx hb dX7_modeInfo_52 rfl (lv_at hl 0 rfl) ?_
            refine lv_iload_n hx hb dX7_modeInfo_53 rfl (lv_at hl 1 rfl) ?_
            refine lv_iload_n hx hb dX7_modeInfo_54 rfl (lv_at hl 2 rfl) ?_
            have hPc := zP_sub (w := [(x, .inr (7, [.ref ms, .ref mp, .int (nI pz), .ref mt, .int (nI len), .ref md, .int (nI sp), .int q1, .int q2, .int q3, .int q4, .int q5, .int (nI fm)])), (ms, .inl (E.2.1, 265, .inl (fun zz => nI (M zz))))]) hP [0, 1] rfl
            refine z_rd (fun _ h => h) (va_runV (As := [.int (nI s), .int (nI n)]) (rest := []) hF (c_X7_nodes l E x ms mp mt md pz len sp fm s n q1 q2 q3 q4 q5 M (by first | assumption | omega) (by first | assumption | omega) (by first | assumption | omega) (by first | assumption | omega) (by first | assumption | omega) (by first | assumption | omega) (by first | assumption | omega)) (cwV 2 hts gX7_modeInfo_X7_nodes rfl rfl rfl (by decide +kernel) ⟨Nat.le_of_ble_eq_true rfl, Nat.le_of_ble_eq_true rfl⟩) (z_preRV (va_recv hG.1 hP (ci := 7) (q0 := 0) rfl rfl) hPc hG) rfl rfl hl.1 rfl (lv_room (Nat.le_of_ble_eq_true rfl)) dX7_modeInfo_55 ⟨Nat.zero_le _, Nat.zero_le _⟩) (fun r9 hr9 => ?_)
            subst hr9
            exact hret _ _ _ dX7_modeInfo_58 (Or.inr (⟨s, n, w, (nI (cnL n (2520 - mSt M s) (2519 - mSt M s))), by first | rfl | (congr 1; omega), ⟨rfl, rfl, rfl, by omega, by omega, by omega, by omega, by unfold miA; (repeat' split) <;> first | rfl | (exfalso; omega)⟩⟩))
          · -- 40 f
            refine lv_aload_n hx hb dX7_modeInfo_43 rfl (lv_at hl 0 rfl) ?_
            refine lv_iload_n hx hb dX7_modeInfo_44 rfl (lv_at hl 1 rfl) ?_
            refine lv_iload_n hx hb dX7_modeInfo_45 rfl (lv_at hl 2 rfl) ?_
            have hPc := zP_sub (w := [(x, .inr (7, [.ref ms, .ref mp, .int (nI pz), .ref mt, .int (nI len), .ref md, .int (nI sp), .int q1, .int q2, .int q3, .int q4, .int q5, .int (nI fm)])), (ms, .inl (E.2.1, 265, .inl (fun zz => nI (M zz))))]) hP [0, 1] rfl
            refine z_rd (fun _ h => h) (va_runV (As := [.int (nI s), .int (nI n)]) (rest := []) hF (c_X7_pitch l E x ms mp mt md pz len sp fm s n q1 q2 q3 q4 q5 M (by first | assumption | omega) (by first | assumption | omega) (by first | assumption | omega) (by first | assumption | omega) (by first | assumption | omega) (by first | assumption | omega) (by first | assumption | omega) (by first | assumption | omega)) (cwV 2 hts gX7_modeInfo_X7_pitch rfl rfl rfl (by decide +kernel) ⟨Nat.le_of_ble_eq_true rfl, Nat.le_of_ble_eq_true rfl⟩) (z_preRV (va_recv hG.1 hP (ci := 7) (q0 := 0) rfl rfl) hPc hG) rfl rfl hl.1 rfl (lv_room (Nat.le_of_ble_eq_true rfl)) dX7_modeInfo_46 ⟨Nat.zero_le _, Nat.zero_le _⟩) (fun r10 hr10 => ?_)
            subst hr10
            refine lv_goto (tgt := 58) hx hb dX7_modeInfo_49 (by decide) ?_
            exact hret _ _ _ dX7_modeInfo_58 (Or.inr (⟨s, n, w, (nI (pitch (mT M) (mSt M) s n)), by first | rfl | (congr 1; omega), ⟨rfl, rfl, rfl, by omega, by omega, by omega, by omega, by unfold miA; (repeat' split) <;> first | rfl | (exfalso; omega)⟩⟩))
        · -- 26 f
          refine lv_aload_n hx hb dX7_modeInfo_29 rfl (lv_at hl 0 rfl) ?_
          refine lv_iload_n hx hb dX7_modeInfo_30 rfl (lv_at hl 1 rfl) ?_
          refine lv_iload_n hx hb dX7_modeInfo_31 rfl (lv_at hl 2 rfl) ?_
          have hPc := zP_sub (w := [(x, .inr (7, [.ref ms, .ref mp, .int (nI pz), .ref mt, .int (nI len), .ref md, .int (nI sp), .int q1, .int q2, .int q3, .int q4, .int q5, .int (nI fm)])), (ms, .inl (E.2.1, 265, .inl (fun zz => nI (M zz))))]) hP [0, 1] rfl
          refine z_rd (fun _ h => h) (va_runV (As := [.int (nI s), .int (nI n)]) (rest := []) hF (c_X7_loud l E x ms mp mt md pz len sp fm s n q1 q2 q3 q4 q5 M (by first | assumption | omega) (by first | assumption | omega) (by first | assumption | omega)) (cwV 2 hts gX7_modeInfo_X7_loud rfl rfl rfl (by decide +kernel) ⟨Nat.le_of_ble_eq_true rfl, Nat.le_of_ble_eq_true rfl⟩) (z_preRV (va_recv hG.1 hP (ci := 7) (q0 := 0) rfl rfl) hPc hG) rfl rfl hl.1 rfl (lv_room (Nat.le_of_ble_eq_true rfl)) dX7_modeInfo_32 ⟨Nat.zero_le _, Nat.zero_le _⟩) (fun r11 hr11 => ?_)
          subst hr11
          refine lv_goto (tgt := 58) hx hb dX7_modeInfo_35 (by decide) ?_
          exact hret _ _ _ dX7_modeInfo_58 (Or.inr (⟨s, n, w, (nI (M (61 + 12 * s + n - 1))), by first | rfl | (congr 1; omega), ⟨rfl, rfl, rfl, by omega, by omega, by omega, by omega, by unfold miA; (repeat' split) <;> first | rfl | (exfalso; omega)⟩⟩))
      · -- 17 f
        refine lv_if_ne (tgt := 25) hx hb dX7_modeInfo_20 (by decide) (fun c => absurd c (by decide)) (fun _ => ?_)
        refine lv_iconst (v := (-1)) hx hb dX7_modeInfo_23 (by decide) ?_
        exact hret _ _ _ dX7_modeInfo_24 (Or.inl ⟨rfl, by intro q; first | exact absurd q (by assumption) | exact absurd q.1 (by assumption) | exact absurd q.2 (by assumption) | exact absurd q.2.1 (by assumption) | exact absurd q.2.2 (by assumption)⟩)
    · -- 8 f
      refine lv_if_eq (tgt := 23) hx hb dX7_modeInfo_11 (by decide) (fun _ => ?_) (fun c => absurd c (by decide))
      refine lv_iconst (v := (-1)) hx hb dX7_modeInfo_23 (by decide) ?_
      exact hret _ _ _ dX7_modeInfo_24 (Or.inl ⟨rfl, by intro q; first | exact absurd q (by assumption) | exact absurd q.1 (by assumption) | exact absurd q.2 (by assumption) | exact absurd q.2.1 (by assumption) | exact absurd q.2.2 (by assumption)⟩)
  · -- 1 f
    refine lv_if_eq (tgt := 23) hx hb dX7_modeInfo_4 (by decide) (fun _ => ?_) (fun c => absurd c (by decide))
    refine lv_iconst (v := (-1)) hx hb dX7_modeInfo_23 (by decide) ?_
    exact hret _ _ _ dX7_modeInfo_24 (Or.inl ⟨rfl, by intro q; first | exact absurd q (by assumption) | exact absurd q.1 (by assumption) | exact absurd q.2 (by assumption) | exact absurd q.2.1 (by assumption) | exact absurd q.2.2 (by assumption)⟩)
set_option maxHeartbeats 1000000 in
set_option maxRecDepth 100000 in
theorem c_X7_node (l : Launch) (E : zE) (x ms mp mt md pz len sp fm : Nat) (q1 q2 q3 q4 q5 a v u : Int32) (M : Nat → Nat) (hn : M 0 ≤ 12) (hPb : ∀ i, i < 12 → mP M i ≤ 2400) (hHb : ∀ i, i < 12 → mH M i ≤ 2000) (hprn : ∀ i, i < 4 → mPr M i ≤ M 0) : zR l yX7_node wsX7_node ({ frames := 7, cells := 0, slots := 0, locals := 158 }) E [.ref x, .int a, .int v, .int u] [(x, .inr (7, [.ref ms, .ref mp, .int (nI pz), .ref mt, .int (nI len), .ref md, .int (nI sp), .int q1, .int q2, .int q3, .int q4, .int q5, .int (nI fm)])), (ms, .inl (E.2.1, 265, .inl (fun zz => nI (M zz))))] (fun r => (r = (-1) ∧ (¬ ((nI 0 ≤ a ∧ a ≤ nI 3) ∧ (nI 1 ≤ v ∧ v ≤ nI 12) ∧ (nI 1 ≤ u ∧ u ≤ nI 2519)))) ∨ (∃ (s : Nat) (n : Nat) (y : Nat), r = (-4) ∧ (a = nI s ∧ v = nI n ∧ u = nI y ∧ s < 4 ∧ 1 ≤ n ∧ n ≤ 12 ∧ 1 ≤ y ∧ y ≤ 2519 ∧ y ≤ mSt M s)) ∨ (∃ (s : Nat) (n : Nat) (y : Nat), r = nI 1 ∧ (a = nI s ∧ v = nI n ∧ u = nI y ∧ s < 4 ∧ 1 ≤ n ∧ n ≤ 12 ∧ 1 ≤ y ∧ y ≤ 2519 ∧ mSt M s < y ∧ n * (y - mSt M s) % (2520 - mSt M s) = 0)) ∨ (∃ (s : Nat) (n : Nat) (y : Nat), r = nI 0 ∧ (a = nI s ∧ v = nI n ∧ u = nI y ∧ s < 4 ∧ 1 ≤ n ∧ n ≤ 12 ∧ 1 ≤ y ∧ y ≤ 2519 ∧ mSt M s < y ∧ ¬ n * (y - mSt M s) % (2520 - mSt M s) = 0))) := by
  refine zR.start (own := RX7) rfl (by decide +kernel) rfl (Nat.le_of_ble_eq_true rfl) (fun _ _ => rfl) ?_
  intro pZ eZ sZ mZ argsZ belowZ methZ cZ QZ hF hret hP hG ls hl
  obtain ⟨hx, hb, hml, hown, hts⟩ := id hF
  have hl : lv_has ls 4 [(0, .ref x), (1, .int a), (2, .int v), (3, .int u)] := hl
  refine lv_iload_n hx hb dX7_node_0 rfl (lv_at hl 1 rfl) ?_
  refine lv_iload_n hx hb dX7_node_1 rfl (lv_at hl 2 rfl) ?_
  refine lv_iload_n hx hb dX7_node_2 rfl (lv_at hl 3 rfl) ?_
  refine z_rd (fun _ h => h) (va_runS (As := [.int a, .int v, .int u]) (rest := []) hF (c_X7_isPlace l E a v u ) (va_cwS 3 hts gX7_node_X7_isPlace rfl rfl rfl (by decide +kernel) ⟨Nat.le_of_ble_eq_true rfl, Nat.le_of_ble_eq_true rfl⟩) (z_preR (fun k q h => by simp at h) hG) rfl rfl hl.1 rfl (lv_room (Nat.le_of_ble_eq_true rfl)) dX7_node_3 ⟨Nat.zero_le _, Nat.zero_le _⟩) (fun r1 hr1 => ?_)
  rcases hr1 with ⟨rfl, c2⟩ | ⟨rfl, c2⟩
  · -- 3 t
    obtain ⟨s, hs1, hs2, rfl⟩ := z_ge (by omega) (by omega) c2.1.1 c2.1.2
    obtain ⟨n, hn1, hn2, rfl⟩ := z_ge (by omega) (by omega) c2.2.1.1 c2.2.1.2
    obtain ⟨y, hy1, hy2, rfl⟩ := z_ge (by omega) (by omega) c2.2.2.1 c2.2.2.2
    have hsb : mSt M s ≤ 2400 := mSt_le hn hPb hprn (by omega)
    refine lv_if_ne (tgt := 11) hx hb dX7_node_6 (by decide) (fun _ => ?_) (fun c => absurd c (by decide))
    refine lv_iload_n hx hb dX7_node_11 rfl (lv_at hl 3 rfl) ?_
    refine lv_aload_n hx hb dX7_node_12 rfl (lv_at hl 0 rfl) ?_
    refine lv_iload_n hx hb dX7_node_13 rfl (lv_at hl 1 rfl) ?_
    have hPc := zP_sub (w := [(x, .inr (7, [.ref ms, .ref mp, .int (nI pz), .ref mt, .int (nI len), .ref md, .int (nI sp), .int q1, .int q2, .int q3, .int q4, .int q5, .int (nI fm)])), (ms, .inl (E.2.1, 265, .inl (fun zz => nI (M zz))))]) hP [0, 1] rfl
    refine z_rd (fun _ h => h) (va_runV (As := [.int (nI s)]) (rest := [.int (nI y)]) hF (c_X7_positionOf l E x ms mp mt md pz len sp fm s q1 q2 q3 q4 q5 M (by first | assumption | omega) (by first | assumption | omega) (by first | assumption | omega) (by first | assumption | omega) (by first | assumption | omega)) (cwV 1 hts gX7_node_X7_positionOf rfl rfl rfl (by decide +kernel) ⟨Nat.le_of_ble_eq_true rfl, Nat.le_of_ble_eq_true rfl⟩) (z_preRV (va_recv hG.1 hP (ci := 7) (q0 := 0) rfl rfl) hPc hG) rfl rfl hl.1 rfl (lv_room (Nat.le_of_ble_eq_true rfl)) dX7_node_14 ⟨Nat.zero_le _, Nat.zero_le _⟩) (fun r3 hr3 => ?_)
    subst hr3
    refine z_icmp_gt (a := y) (b := mSt M s) (tgt := 23) hx hb dX7_node_17 (by decide) (by omega) (by omega) (fun c4 => ?_) (fun c4 => ?_)
    · -- 17 t
      refine lv_aload_n hx hb dX7_node_23 rfl (lv_at hl 0 rfl) ?_
      refine lv_iload_n hx hb dX7_node_24 rfl (lv_at hl 1 rfl) ?_
      refine lv_iload_n hx hb dX7_node_25 rfl (lv_at hl 2 rfl) ?_
      refine lv_iload_n hx hb dX7_node_26 rfl (lv_at hl 3 rfl) ?_
      have hPc := zP_sub (w := [(x, .inr (7, [.ref ms, .ref mp, .int (nI pz), .ref mt, .int (nI len), .ref md, .int (nI sp), .int q1, .int q2, .int q3, .int q4, .int q5, .int (nI fm)])), (ms, .inl (E.2.1, 265, .inl (fun zz => nI (M zz))))]) hP [0, 1] rfl
      refine z_rd (fun _ h => h) (va_runV (As := [.int (nI s), .int (nI n), .int (nI y)]) (rest := []) hF (c_X7_hasNode l E x ms mp mt md pz len sp fm s n y q1 q2 q3 q4 q5 M (by first | assumption | omega) (by first | assumption | omega) (by first | assumption | omega) (by first | assumption | omega) (by first | assumption | omega) (by first | assumption | omega) (by first | assumption | omega) (by first | assumption | omega) (by first | assumption | omega)) (cwV 3 hts gX7_node_X7_hasNode rfl rfl rfl (by decide +kernel) ⟨Nat.le_of_ble_eq_true rfl, Nat.le_of_ble_eq_true rfl⟩) (z_preRV (va_recv hG.1 hP (ci := 7) (q0 := 0) rfl rfl) hPc hG) rfl rfl hl.1 rfl (lv_room (Nat.le_of_ble_eq_true rfl)) dX7_node_27 ⟨Nat.zero_le _, Nat.zero_le _⟩) (fun r5 hr5 => ?_)
      rcases hr5 with ⟨rfl, c6⟩ | ⟨rfl, c6⟩
      · -- 27 t
        refine lv_if_eq (tgt := 37) hx hb dX7_node_30 (by decide) (fun c => absurd c (by decide)) (fun _ => ?_)
        refine lv_iconst (v := nI 1) hx hb dX7_node_33 (by decide) ?_
        refine lv_goto (tgt := 38) hx hb dX7_node_34 (by decide) ?_
        exact hret _ _ _ dX7_node_38 (Or.inr (Or.inr (Or.inl ⟨s, n, y, rfl, ⟨rfl, rfl, rfl, by omega, by omega, by omega, by omega, by omega, by omega, by first | assumption | omega⟩⟩)))
      · -- 27 f
        refine lv_if_eq (tgt := 37) hx hb dX7_node_30 (by decide) (fun _ => ?_) (fun c => absurd c (by decide))
        refine lv_iconst (v := nI 0) hx hb dX7_node_37 (by decide) ?_
        exact hret _ _ _ dX7_node_38 (Or.inr (Or.inr (Or.inr (⟨s, n, y, rfl, ⟨rfl, rfl, rfl, by omega, by omega, by omega, by omega, by omega, by omega, by first | assumption | omega⟩⟩))))
    · -- 17 f
      refine lv_bipush (v := (-4)) hx hb dX7_node_20 (by decide) ?_
      exact hret _ _ _ dX7_node_22 (Or.inr (Or.inl ⟨s, n, y, rfl, ⟨rfl, rfl, rfl, by omega, by omega, by omega, by omega, by omega, by omega⟩⟩))
  · -- 3 f
    refine lv_if_ne (tgt := 11) hx hb dX7_node_6 (by decide) (fun c => absurd c (by decide)) (fun _ => ?_)
    refine lv_iconst (v := (-1)) hx hb dX7_node_9 (by decide) ?_
    exact hret _ _ _ dX7_node_10 (Or.inl ⟨rfl, by assumption⟩)
set_option maxHeartbeats 1000000 in
set_option maxRecDepth 100000 in
theorem c_X7_nodeAgain (l : Launch) (E : zE) (x ms mp mt md pz len sp fm : Nat) (q1 q2 q3 q4 q5 a v u : Int32) (M : Nat → Nat) (hn : M 0 ≤ 12) (hPb : ∀ i, i < 12 → mP M i ≤ 2400) (hHb : ∀ i, i < 12 → mH M i ≤ 2000) (hprn : ∀ i, i < 4 → mPr M i ≤ M 0) : zR l yX7_nodeAgain wsX7_nodeAgain ({ frames := 6, cells := 0, slots := 0, locals := 135 }) E [.ref x, .int a, .int v, .int u] [(x, .inr (7, [.ref ms, .ref mp, .int (nI pz), .ref mt, .int (nI len), .ref md, .int (nI sp), .int q1, .int q2, .int q3, .int q4, .int q5, .int (nI fm)])), (ms, .inl (E.2.1, 265, .inl (fun zz => nI (M zz))))] (fun r => (r = (-1) ∧ (¬ ((nI 0 ≤ a ∧ a ≤ nI 3) ∧ (nI 1 ≤ v ∧ v ≤ nI 12) ∧ (nI 1 ≤ u ∧ u ≤ nI 2519)))) ∨ (∃ (s : Nat) (n : Nat) (y : Nat), r = (-4) ∧ (a = nI s ∧ v = nI n ∧ u = nI y ∧ s < 4 ∧ 1 ≤ n ∧ n ≤ 12 ∧ 1 ≤ y ∧ y ≤ 2519 ∧ y ≤ mSt M s)) ∨ (∃ (s : Nat) (n : Nat) (y : Nat), r = nI 1 ∧ (a = nI s ∧ v = nI n ∧ u = nI y ∧ s < 4 ∧ 1 ≤ n ∧ n ≤ 12 ∧ 1 ≤ y ∧ y ≤ 2519 ∧ mSt M s < y ∧ n % ((2520 - mSt M s) / Nat.gcd (2520 - mSt M s) (y - mSt M s)) = 0)) ∨ (∃ (s : Nat) (n : Nat) (y : Nat), r = nI 0 ∧ (a = nI s ∧ v = nI n ∧ u = nI y ∧ s < 4 ∧ 1 ≤ n ∧ n ≤ 12 ∧ 1 ≤ y ∧ y ≤ 2519 ∧ mSt M s < y ∧ ¬ n % ((2520 - mSt M s) / Nat.gcd (2520 - mSt M s) (y - mSt M s)) = 0))) := by
  refine zR.start (own := RX7) rfl (by decide +kernel) rfl (Nat.le_of_ble_eq_true rfl) (fun _ _ => rfl) ?_
  intro pZ eZ sZ mZ argsZ belowZ methZ cZ QZ hF hret hP hG ls hl
  obtain ⟨hx, hb, hml, hown, hts⟩ := id hF
  have hl : lv_has ls 6 [(0, .ref x), (1, .int a), (2, .int v), (3, .int u)] := hl
  refine lv_iload_n hx hb dX7_nodeAgain_0 rfl (lv_at hl 1 rfl) ?_
  refine lv_iload_n hx hb dX7_nodeAgain_1 rfl (lv_at hl 2 rfl) ?_
  refine lv_iload_n hx hb dX7_nodeAgain_2 rfl (lv_at hl 3 rfl) ?_
  refine z_rd (fun _ h => h) (va_runS (As := [.int a, .int v, .int u]) (rest := []) hF (c_X7_isPlace l E a v u ) (va_cwS 3 hts gX7_nodeAgain_X7_isPlace rfl rfl rfl (by decide +kernel) ⟨Nat.le_of_ble_eq_true rfl, Nat.le_of_ble_eq_true rfl⟩) (z_preR (fun k q h => by simp at h) hG) rfl rfl hl.1 rfl (lv_room (Nat.le_of_ble_eq_true rfl)) dX7_nodeAgain_3 ⟨Nat.zero_le _, Nat.zero_le _⟩) (fun r1 hr1 => ?_)
  rcases hr1 with ⟨rfl, c2⟩ | ⟨rfl, c2⟩
  · -- 3 t
    obtain ⟨s, hs1, hs2, rfl⟩ := z_ge (by omega) (by omega) c2.1.1 c2.1.2
    obtain ⟨n, hn1, hn2, rfl⟩ := z_ge (by omega) (by omega) c2.2.1.1 c2.2.1.2
    obtain ⟨y, hy1, hy2, rfl⟩ := z_ge (by omega) (by omega) c2.2.2.1 c2.2.2.2
    have hsb : mSt M s ≤ 2400 := mSt_le hn hPb hprn (by omega)
    refine lv_if_ne (tgt := 11) hx hb dX7_nodeAgain_6 (by decide) (fun _ => ?_) (fun c => absurd c (by decide))
    refine lv_iload_n hx hb dX7_nodeAgain_11 rfl (lv_at hl 3 rfl) ?_
    refine lv_aload_n hx hb dX7_nodeAgain_12 rfl (lv_at hl 0 rfl) ?_
    refine lv_iload_n hx hb dX7_nodeAgain_13 rfl (lv_at hl 1 rfl) ?_
    have hPc := zP_sub (w := [(x, .inr (7, [.ref ms, .ref mp, .int (nI pz), .ref mt, .int (nI len), .ref md, .int (nI sp), .int q1, .int q2, .int q3, .int q4, .int q5, .int (nI fm)])), (ms, .inl (E.2.1, 265, .inl (fun zz => nI (M zz))))]) hP [0, 1] rfl
    refine z_rd (fun _ h => h) (va_runV (As := [.int (nI s)]) (rest := [.int (nI y)]) hF (c_X7_positionOf l E x ms mp mt md pz len sp fm s q1 q2 q3 q4 q5 M (by first | assumption | omega) (by first | assumption | omega) (by first | assumption | omega) (by first | assumption | omega) (by first | assumption | omega)) (cwV 1 hts gX7_nodeAgain_X7_positionOf rfl rfl rfl (by decide +kernel) ⟨Nat.le_of_ble_eq_true rfl, Nat.le_of_ble_eq_true rfl⟩) (z_preRV (va_recv hG.1 hP (ci := 7) (q0 := 0) rfl rfl) hPc hG) rfl rfl hl.1 rfl (lv_room (Nat.le_of_ble_eq_true rfl)) dX7_nodeAgain_14 ⟨Nat.zero_le _, Nat.zero_le _⟩) (fun r3 hr3 => ?_)
    subst hr3
    refine lv_isub hx hb dX7_nodeAgain_17 ?_
    refine lv_topi (fun x4 ex4 => ?_)
    refine lv_istore (lv' := [(4, .int x4), (0, .ref x), (1, .int (nI s)), (2, .int (nI n)), (3, .int (nI y))]) hx hb dX7_nodeAgain_18 hl (by decide) rfl (fun ls hl => ?_)
    refine lv_iload hx hb dX7_nodeAgain_20 (lv_at hl 0 rfl) ?_
    refine lv_if_gt (tgt := 28) hx hb dX7_nodeAgain_22 (by decide) (fun c5 => ?_) (fun c5 => ?_)
    · -- 22 t
      obtain ⟨hyy, rfl⟩ := na_t (by omega) (by omega) ex4 c5
      have hgp : 0 < Nat.gcd (2520 - mSt M s) (y - mSt M s) := Nat.gcd_pos_of_pos_left _ (by omega)
      have hgl : Nat.gcd (2520 - mSt M s) (y - mSt M s) ≤ 2520 - mSt M s := Nat.gcd_le_left _ (by omega)
      have hgd : 0 < (2520 - mSt M s) / Nat.gcd (2520 - mSt M s) (y - mSt M s) := Nat.div_pos hgl hgp
      have hgq := Nat.div_le_self (2520 - mSt M s) (Nat.gcd (2520 - mSt M s) (y - mSt M s))
      have hgm := Nat.mod_lt n hgd
      refine lv_aload_n hx hb dX7_nodeAgain_28 rfl (lv_at hl 1 rfl) ?_
      refine lv_iload_n hx hb dX7_nodeAgain_29 rfl (lv_at hl 2 rfl) ?_
      have hPc := zP_sub (w := [(x, .inr (7, [.ref ms, .ref mp, .int (nI pz), .ref mt, .int (nI len), .ref md, .int (nI sp), .int q1, .int q2, .int q3, .int q4, .int q5, .int (nI fm)])), (ms, .inl (E.2.1, 265, .inl (fun zz => nI (M zz))))]) hP [0, 1] rfl
      refine z_rd (fun _ h => h) (va_runV (As := [.int (nI s)]) (rest := []) hF (c_X7_lengthOf l E x ms mp mt md pz len sp fm s q1 q2 q3 q4 q5 M (by first | assumption | omega) (by first | assumption | omega) (by first | assumption | omega) (by first | assumption | omega) (by first | assumption | omega)) (cwV 1 hts gX7_nodeAgain_X7_lengthOf rfl rfl rfl (by decide +kernel) ⟨Nat.le_of_ble_eq_true rfl, Nat.le_of_ble_eq_true rfl⟩) (z_preRV (va_recv hG.1 hP (ci := 7) (q0 := 0) rfl rfl) hPc hG) rfl rfl hl.1 rfl (lv_room (Nat.le_of_ble_eq_true rfl)) dX7_nodeAgain_30 ⟨Nat.zero_le _, Nat.zero_le _⟩) (fun r6 hr6 => ?_)
      subst hr6
      refine lv_istore (lv' := [(5, .int (nI (2520 - mSt M s))), (4, .int (nI (y - mSt M s))), (0, .ref x), (1, .int (nI s)), (2, .int (nI n)), (3, .int (nI y))]) hx hb dX7_nodeAgain_33 hl (by decide) rfl (fun ls hl => ?_)
      refine lv_iload_n hx hb dX7_nodeAgain_35 rfl (lv_at hl 4 rfl) ?_
      refine lv_iload hx hb dX7_nodeAgain_36 (lv_at hl 0 rfl) ?_
      refine lv_iload hx hb dX7_nodeAgain_38 (lv_at hl 0 rfl) ?_
      refine lv_iload hx hb dX7_nodeAgain_40 (lv_at hl 1 rfl) ?_
      refine z_rd (fun _ h => h) (va_runS (As := [.int (nI (2520 - mSt M s)), .int (nI (y - mSt M s))]) (rest := [.int (nI (2520 - mSt M s)), .int (nI n)]) hF (c_X7_divisor l E (2520 - mSt M s) (y - mSt M s) (by first | assumption | omega) (by first | assumption | omega)) (va_cwS 2 hts gX7_nodeAgain_X7_divisor rfl rfl rfl (by decide +kernel) ⟨Nat.le_of_ble_eq_true rfl, Nat.le_of_ble_eq_true rfl⟩) (z_preR (fun k q h => by simp at h) hG) rfl rfl hl.1 rfl (lv_room (Nat.le_of_ble_eq_true rfl)) dX7_nodeAgain_42 ⟨Nat.zero_le _, Nat.zero_le _⟩) (fun r7 hr7 => ?_)
      subst hr7
      refine z_idiv (a := 2520 - mSt M s) (b := Nat.gcd (2520 - mSt M s) (y - mSt M s)) hx hb dX7_nodeAgain_45 (by omega) (by omega) (by omega) ?_
      refine z_irem (a := n) (b := (2520 - mSt M s) / (Nat.gcd (2520 - mSt M s) (y - mSt M s))) hx hb dX7_nodeAgain_46 (by omega) (by omega) (by omega) ?_
      refine z_if_ne (a := n % ((2520 - mSt M s) / (Nat.gcd (2520 - mSt M s) (y - mSt M s)))) (tgt := 54) hx hb dX7_nodeAgain_47 (by decide) (by omega) (fun c8 => ?_) (fun c8 => ?_)
      · -- 47 t
        refine lv_iconst (v := nI 0) hx hb dX7_nodeAgain_54 (by decide) ?_
        exact hret _ _ _ dX7_nodeAgain_55 (Or.inr (Or.inr (Or.inr (⟨s, n, y, rfl, ⟨rfl, rfl, rfl, by omega, by omega, by omega, by omega, by omega, by omega, by first | assumption | omega⟩⟩))))
      · -- 47 f
        refine lv_iconst (v := nI 1) hx hb dX7_nodeAgain_50 (by decide) ?_
        refine lv_goto (tgt := 55) hx hb dX7_nodeAgain_51 (by decide) ?_
        exact hret _ _ _ dX7_nodeAgain_55 (Or.inr (Or.inr (Or.inl ⟨s, n, y, rfl, ⟨rfl, rfl, rfl, by omega, by omega, by omega, by omega, by omega, by omega, by first | assumption | omega⟩⟩)))
    · -- 22 f
      have hyl := na_f (by omega) (by omega) ex4 c5
      refine lv_bipush (v := (-4)) hx hb dX7_nodeAgain_25 (by decide) ?_
      exact hret _ _ _ dX7_nodeAgain_27 (Or.inr (Or.inl ⟨s, n, y, rfl, ⟨rfl, rfl, rfl, by omega, by omega, by omega, by omega, by omega, by omega⟩⟩))
  · -- 3 f
    refine lv_if_ne (tgt := 11) hx hb dX7_nodeAgain_6 (by decide) (fun c => absurd c (by decide)) (fun _ => ?_)
    refine lv_iconst (v := (-1)) hx hb dX7_nodeAgain_9 (by decide) ?_
    exact hret _ _ _ dX7_nodeAgain_10 (Or.inl ⟨rfl, by assumption⟩)
set_option maxHeartbeats 1000000 in
set_option maxRecDepth 100000 in
theorem c_X7_beat (l : Launch) (E : zE) (x ms mp mt md pz len sp fm : Nat) (q1 q2 q3 q4 q5 a u b v : Int32) (M : Nat → Nat) (hn : M 0 ≤ 12) (hPb : ∀ i, i < 12 → mP M i ≤ 2400) (hHb : ∀ i, i < 12 → mH M i ≤ 2000) (hprn : ∀ i, i < 4 → mPr M i ≤ M 0) (hte : ∀ i, i < 4 → mT M i ≤ 100000000) (ham : ∀ i, i < 48 → mAm M i ≤ 1000000) (hse4 : M 8 ≤ 100000) : zR l yX7_beat wsX7_beat ({ frames := 8, cells := 0, slots := 0, locals := 183 }) E [.ref x, .int a, .int u, .int b, .int v] [(x, .inr (7, [.ref ms, .ref mp, .int (nI pz), .ref mt, .int (nI len), .ref md, .int (nI sp), .int q1, .int q2, .int q3, .int q4, .int q5, .int (nI fm)])), (ms, .inl (E.2.1, 265, .inl (fun zz => nI (M zz))))] (fun r => (r = (-1) ∧ (¬ (((nI 0 ≤ a ∧ a ≤ nI 3) ∧ (nI 0 ≤ b ∧ b ≤ nI 3) ∧ a ≠ b) ∧ (nI 1 ≤ u ∧ u ≤ nI 12) ∧ (nI 1 ≤ v ∧ v ≤ nI 12)))) ∨ (∃ (a0 : Nat) (n : Nat) (b0 : Nat) (m : Nat) (r9 : Int32), r = r9 ∧ (a = nI a0 ∧ u = nI n ∧ b = nI b0 ∧ v = nI m ∧ a0 < 4 ∧ b0 < 4 ∧ a0 ≠ b0 ∧ 1 ≤ n ∧ n ≤ 12 ∧ 1 ≤ m ∧ m ≤ 12 ∧ r9 = if beatV (mT M) (mSt M) (mAm M) (M 8) a0 n b0 m = 0 then -4 else nI (beatV (mT M) (mSt M) (mAm M) (M 8) a0 n b0 m)))) := by
  refine zR.start (own := RX7) rfl (by decide +kernel) rfl (Nat.le_of_ble_eq_true rfl) (fun _ _ => rfl) ?_
  intro pZ eZ sZ mZ argsZ belowZ methZ cZ QZ hF hret hP hG ls hl
  obtain ⟨hx, hb, hml, hown, hts⟩ := id hF
  have hl : lv_has ls 5 [(0, .ref x), (1, .int a), (2, .int u), (3, .int b), (4, .int v)] := hl
  refine lv_iload_n hx hb dX7_beat_0 rfl (lv_at hl 1 rfl) ?_
  refine lv_iload_n hx hb dX7_beat_1 rfl (lv_at hl 3 rfl) ?_
  refine z_rd (fun _ h => h) (va_runS (As := [.int a, .int b]) (rest := []) hF (c_X7_areTwo l E a b ) (va_cwS 2 hts gX7_beat_X7_areTwo rfl rfl rfl (by decide +kernel) ⟨Nat.le_of_ble_eq_true rfl, Nat.le_of_ble_eq_true rfl⟩) (z_preR (fun k q h => by simp at h) hG) rfl rfl hl.1 rfl (lv_room (Nat.le_of_ble_eq_true rfl)) dX7_beat_2 ⟨Nat.zero_le _, Nat.zero_le _⟩) (fun r1 hr1 => ?_)
  rcases hr1 with ⟨rfl, c2⟩ | ⟨rfl, c2⟩
  · -- 2 t
    have ka := c2.1
    have kb := c2.2.1
    have kab := c2.2.2
    have kk := c2
    refine lv_if_eq (tgt := 35) hx hb dX7_beat_5 (by decide) (fun c => absurd c (by decide)) (fun _ => ?_)
    refine lv_iload_n hx hb dX7_beat_8 rfl (lv_at hl 2 rfl) ?_
    refine z_rd (fun _ h => h) (va_runS (As := [.int u]) (rest := []) hF (c_X7_isMode l E u ) (va_cwS 1 hts gX7_beat_X7_isMode rfl rfl rfl (by decide +kernel) ⟨Nat.le_of_ble_eq_true rfl, Nat.le_of_ble_eq_true rfl⟩) (z_preR (fun k q h => by simp at h) hG) rfl rfl hl.1 rfl (lv_room (Nat.le_of_ble_eq_true rfl)) dX7_beat_9 ⟨Nat.zero_le _, Nat.zero_le _⟩) (fun r3 hr3 => ?_)
    rcases hr3 with ⟨rfl, c4⟩ | ⟨rfl, c4⟩
    · -- 9 t
      have kn := c4
      refine lv_if_eq (tgt := 35) hx hb dX7_beat_12 (by decide) (fun c => absurd c (by decide)) (fun _ => ?_)
      refine lv_iload hx hb dX7_beat_15 (lv_at hl 4 rfl) ?_
      refine z_rd (fun _ h => h) (va_runS (As := [.int v]) (rest := []) hF (c_X7_isMode l E v ) (va_cwS 1 hts gX7_beat_X7_isMode rfl rfl rfl (by decide +kernel) ⟨Nat.le_of_ble_eq_true rfl, Nat.le_of_ble_eq_true rfl⟩) (z_preR (fun k q h => by simp at h) hG) rfl rfl hl.1 rfl (lv_room (Nat.le_of_ble_eq_true rfl)) dX7_beat_17 ⟨Nat.zero_le _, Nat.zero_le _⟩) (fun r5 hr5 => ?_)
      rcases hr5 with ⟨rfl, c6⟩ | ⟨rfl, c6⟩
      · -- 17 t
        obtain ⟨a0, ha01, ha02, rfl⟩ := z_ge (by omega) (by omega) ka.1 ka.2
        obtain ⟨b0, hb01, hb02, rfl⟩ := z_ge (by omega) (by omega) kb.1 kb.2
        obtain ⟨n, hn1, hn2, rfl⟩ := z_ge (by omega) (by omega) kn.1 kn.2
        obtain ⟨m, hm1, hm2, rfl⟩ := z_ge (by omega) (by omega) c6.1 c6.2
        have hab : a0 ≠ b0 := fun q => kab (by rw [q])
        refine lv_if_eq (tgt := 35) hx hb dX7_beat_20 (by decide) (fun c => absurd c (by decide)) (fun _ => ?_)
        refine lv_aload_n hx hb dX7_beat_23 rfl (lv_at hl 0 rfl) ?_
        refine lv_iload_n hx hb dX7_beat_24 rfl (lv_at hl 1 rfl) ?_
        refine lv_iload_n hx hb dX7_beat_25 rfl (lv_at hl 2 rfl) ?_
        refine lv_iload_n hx hb dX7_beat_26 rfl (lv_at hl 3 rfl) ?_
        refine lv_iload hx hb dX7_beat_27 (lv_at hl 4 rfl) ?_
        have hPc := zP_sub (w := [(x, .inr (7, [.ref ms, .ref mp, .int (nI pz), .ref mt, .int (nI len), .ref md, .int (nI sp), .int q1, .int q2, .int q3, .int q4, .int q5, .int (nI fm)])), (ms, .inl (E.2.1, 265, .inl (fun zz => nI (M zz))))]) hP [0, 1] rfl
        refine z_rd (fun _ h => h) (va_runV (As := [.int (nI a0), .int (nI n), .int (nI b0), .int (nI m)]) (rest := []) hF (c_X7_beats l E x ms mp mt md pz len sp fm a0 n b0 m q1 q2 q3 q4 q5 M (by first | assumption | omega) (by first | assumption | omega) (by first | assumption | omega) (by first | assumption | omega) (by first | assumption | omega) (by first | assumption | omega) (by first | assumption | omega) (by first | assumption | omega) (by first | assumption | omega) (by first | assumption | omega) (by first | assumption | omega) (by first | assumption | omega) (by first | assumption | omega)) (cwV 4 hts gX7_beat_X7_beats rfl rfl rfl (by decide +kernel) ⟨Nat.le_of_ble_eq_true rfl, Nat.le_of_ble_eq_true rfl⟩) (z_preRV (va_recv hG.1 hP (ci := 7) (q0 := 0) rfl rfl) hPc hG) rfl rfl hl.1 rfl (lv_room (Nat.le_of_ble_eq_true rfl)) dX7_beat_29 ⟨Nat.zero_le _, Nat.zero_le _⟩) (fun r7 hr7 => ?_)
        rcases hr7 with ⟨rfl, c8⟩ | ⟨rfl, c9⟩
        · -- 29 case 0
          have hbz := c8
          refine lv_goto (tgt := 36) hx hb dX7_beat_32 (by decide) ?_
          exact hret _ _ _ dX7_beat_36 (Or.inr (⟨a0, n, b0, m, (-4), rfl, ⟨rfl, rfl, rfl, rfl, by omega, by omega, hab, by omega, by omega, by omega, by omega, by first | exact (if_pos hbz).symm | exact (if_neg (by omega)).symm⟩⟩))
        · -- 29 case 1
          have hbz := c9
          refine lv_goto (tgt := 36) hx hb dX7_beat_32 (by decide) ?_
          exact hret _ _ _ dX7_beat_36 (Or.inr (⟨a0, n, b0, m, (nI (beatV (mT M) (mSt M) (mAm M) (M 8) a0 n b0 m)), by first | rfl | (congr 1; omega), ⟨rfl, rfl, rfl, rfl, by omega, by omega, hab, by omega, by omega, by omega, by omega, by first | exact (if_pos hbz).symm | exact (if_neg (by omega)).symm⟩⟩))
      · -- 17 f
        refine lv_if_eq (tgt := 35) hx hb dX7_beat_20 (by decide) (fun _ => ?_) (fun c => absurd c (by decide))
        refine lv_iconst (v := (-1)) hx hb dX7_beat_35 (by decide) ?_
        exact hret _ _ _ dX7_beat_36 (Or.inl ⟨rfl, by intro q; first | exact absurd q (by assumption) | exact absurd q.1 (by assumption) | exact absurd q.2 (by assumption) | exact absurd q.2.1 (by assumption) | exact absurd q.2.2 (by assumption)⟩)
    · -- 9 f
      refine lv_if_eq (tgt := 35) hx hb dX7_beat_12 (by decide) (fun _ => ?_) (fun c => absurd c (by decide))
      refine lv_iconst (v := (-1)) hx hb dX7_beat_35 (by decide) ?_
      exact hret _ _ _ dX7_beat_36 (Or.inl ⟨rfl, by intro q; first | exact absurd q (by assumption) | exact absurd q.1 (by assumption) | exact absurd q.2 (by assumption) | exact absurd q.2.1 (by assumption) | exact absurd q.2.2 (by assumption)⟩)
  · -- 2 f
    refine lv_if_eq (tgt := 35) hx hb dX7_beat_5 (by decide) (fun _ => ?_) (fun c => absurd c (by decide))
    refine lv_iconst (v := (-1)) hx hb dX7_beat_35 (by decide) ?_
    exact hret _ _ _ dX7_beat_36 (Or.inl ⟨rfl, by intro q; first | exact absurd q (by assumption) | exact absurd q.1 (by assumption) | exact absurd q.2 (by assumption) | exact absurd q.2.1 (by assumption) | exact absurd q.2.2 (by assumption)⟩)
set_option maxHeartbeats 1000000 in
set_option maxRecDepth 100000 in
theorem c_X7_canBe (l : Launch) (E : zE) (a v : Int32)  : zR l yX7_canBe wsX7_canBe ({ frames := 1, cells := 0, slots := 0, locals := 22 }) E [.int a, .int v] [] (fun r => (r = nI 1 ∧ (canP a v)) ∨ (r = nI 0 ∧ ¬ (canP a v))) := by
  refine zR.start (own := RX7) rfl (by decide +kernel) rfl (Nat.le_of_ble_eq_true rfl) (z_nar) ?_
  intro pZ eZ sZ mZ argsZ belowZ methZ cZ QZ hF hret hP hG ls hl
  obtain ⟨hx, hb, hml, hown, hts⟩ := id hF
  have hl : lv_has ls 2 [(0, .int a), (1, .int v)] := hl
  refine lv_iload_n hx hb dX7_canBe_0 rfl (lv_at hl 0 rfl) ?_
  rcases z_tab a 3 (by decide) with c1 | ⟨kZ, c1, rfl⟩
  · -- 1 out
    refine lv_tableOut (tgt := 57) hx hb dX7_canBe_1 c1 (by decide) ?_
    refine lv_iload_n hx hb dX7_canBe_57 rfl (lv_at hl 0 rfl) ?_
    refine lv_iconst (v := nI 4) hx hb dX7_canBe_58 (by decide) ?_
    refine lv_icmp_ne (tgt := 76) hx hb dX7_canBe_59 (by decide) (fun c2 => ?_) (fun c2 => ?_)
    · -- 59 t
      refine lv_iconst (v := nI 0) hx hb dX7_canBe_76 (by decide) ?_
      exact hret _ _ _ dX7_canBe_77 (Or.inr ⟨rfl, by rintro (⟨q1, q2⟩ | ⟨q1, q2⟩ | ⟨q1, q2⟩ | ⟨q1, q2⟩) <;> first | exact absurd q2 (by assumption) | exact absurd q1 (by assumption) | exact absurd q1 (by decide) | (rcases q1 with rfl | rfl <;> exact absurd (by assumption : (_ ∨ _)) (by decide)) | (subst q1; exact absurd (by assumption : (_ ∨ _)) (by decide))⟩)
    · -- 59 f
      refine lv_iload_n hx hb dX7_canBe_62 rfl (lv_at hl 1 rfl) ?_
      refine lv_iconst (v := nI 0) hx hb dX7_canBe_63 (by decide) ?_
      refine lv_ldc (v := nI 100000) hx hb hown (hts (.constant RX7 148 100000) (by decide +kernel)) dX7_canBe_64 ?_
      refine z_rd (fun _ h => h) (va_runS (As := [.int v, .int (nI 0), .int (nI 100000)]) (rest := []) hF (c_X7_in l E v (nI 0) (nI 100000) ) (va_cwS 3 hts gX7_canBe_X7_in rfl rfl rfl (by decide +kernel) ⟨Nat.le_of_ble_eq_true rfl, Nat.le_of_ble_eq_true rfl⟩) (z_preR (fun k q h => by simp at h) hG) rfl rfl hl.1 rfl (lv_room (Nat.le_of_ble_eq_true rfl)) dX7_canBe_66 ⟨Nat.zero_le _, Nat.zero_le _⟩) (fun r3 hr3 => ?_)
      rcases hr3 with ⟨rfl, c4⟩ | ⟨rfl, c4⟩
      · -- 66 t
        refine lv_if_eq (tgt := 76) hx hb dX7_canBe_69 (by decide) (fun c => absurd c (by decide)) (fun _ => ?_)
        refine lv_iconst (v := nI 1) hx hb dX7_canBe_72 (by decide) ?_
        refine lv_goto (tgt := 77) hx hb dX7_canBe_73 (by decide) ?_
        exact hret _ _ _ dX7_canBe_77 (Or.inl ⟨rfl, by unfold canP; first | exact Or.inl ⟨Or.inl rfl, by assumption⟩ | exact Or.inl ⟨Or.inr rfl, by assumption⟩ | exact Or.inr (Or.inl ⟨rfl, by assumption⟩) | exact Or.inr (Or.inr (Or.inl ⟨rfl, by assumption⟩)) | exact Or.inr (Or.inr (Or.inr ⟨by assumption, by assumption⟩))⟩)
      · -- 66 f
        refine lv_if_eq (tgt := 76) hx hb dX7_canBe_69 (by decide) (fun _ => ?_) (fun c => absurd c (by decide))
        refine lv_iconst (v := nI 0) hx hb dX7_canBe_76 (by decide) ?_
        exact hret _ _ _ dX7_canBe_77 (Or.inr ⟨rfl, by rintro (⟨q1, q2⟩ | ⟨q1, q2⟩ | ⟨q1, q2⟩ | ⟨q1, q2⟩) <;> first | exact absurd q2 (by assumption) | exact absurd q1 (by assumption) | exact absurd q1 (by decide) | (rcases q1 with rfl | rfl <;> exact absurd (by assumption : (_ ∨ _)) (by decide)) | (subst q1; exact absurd (by assumption : (_ ∨ _)) (by decide))⟩)
  · -- 1 in
    obtain hk | hk | hk | hk : kZ = 0 ∨ kZ = 1 ∨ kZ = 2 ∨ kZ = 3 := by omega
    · -- 1 case 0
      subst hk
      refine lv_tableIn (tgt := 32) (off := 31) hx hb dX7_canBe_1 (by decide) (by decide) (by decide) (by decide) ?_
      have hl : lv_has ls 2 [(0, .int (nI 0)), (1, .int v)] := hl
      refine lv_iload_n hx hb dX7_canBe_32 rfl (lv_at hl 1 rfl) ?_
      refine lv_iconst (v := nI 0) hx hb dX7_canBe_33 (by decide) ?_
      refine lv_sipush (v := nI 1000) hx hb dX7_canBe_34 (by decide) ?_
      refine z_rd (fun _ h => h) (va_runS (As := [.int v, .int (nI 0), .int (nI 1000)]) (rest := []) hF (c_X7_in l E v (nI 0) (nI 1000) ) (va_cwS 3 hts gX7_canBe_X7_in rfl rfl rfl (by decide +kernel) ⟨Nat.le_of_ble_eq_true rfl, Nat.le_of_ble_eq_true rfl⟩) (z_preR (fun k q h => by simp at h) hG) rfl rfl hl.1 rfl (lv_room (Nat.le_of_ble_eq_true rfl)) dX7_canBe_37 ⟨Nat.zero_le _, Nat.zero_le _⟩) (fun r5 hr5 => ?_)
      rcases hr5 with ⟨rfl, c6⟩ | ⟨rfl, c6⟩
      · -- 37 t
        exact hret _ _ _ dX7_canBe_40 (Or.inl ⟨rfl, by unfold canP; first | exact Or.inl ⟨Or.inl rfl, by assumption⟩ | exact Or.inl ⟨Or.inr rfl, by assumption⟩ | exact Or.inr (Or.inl ⟨rfl, by assumption⟩) | exact Or.inr (Or.inr (Or.inl ⟨rfl, by assumption⟩)) | exact Or.inr (Or.inr (Or.inr ⟨by assumption, by assumption⟩))⟩)
      · -- 37 f
        exact hret _ _ _ dX7_canBe_40 (Or.inr ⟨rfl, by rintro (⟨q1, q2⟩ | ⟨q1, q2⟩ | ⟨q1, q2⟩ | ⟨q1, q2⟩) <;> first | exact absurd q2 (by assumption) | exact absurd q1 (by assumption) | exact absurd q1 (by decide) | (rcases q1 with rfl | rfl <;> exact absurd (by assumption : (_ ∨ _)) (by decide)) | (subst q1; exact absurd (by assumption : (_ ∨ _)) (by decide))⟩)
    · -- 1 case 1
      subst hk
      refine lv_tableIn (tgt := 41) (off := 40) hx hb dX7_canBe_1 (by decide) (by decide) (by decide) (by decide) ?_
      have hl : lv_has ls 2 [(0, .int (nI 1)), (1, .int v)] := hl
      refine lv_iload_n hx hb dX7_canBe_41 rfl (lv_at hl 1 rfl) ?_
      refine lv_iconst (v := nI 0) hx hb dX7_canBe_42 (by decide) ?_
      refine lv_bipush (v := nI 100) hx hb dX7_canBe_43 (by decide) ?_
      refine z_rd (fun _ h => h) (va_runS (As := [.int v, .int (nI 0), .int (nI 100)]) (rest := []) hF (c_X7_in l E v (nI 0) (nI 100) ) (va_cwS 3 hts gX7_canBe_X7_in rfl rfl rfl (by decide +kernel) ⟨Nat.le_of_ble_eq_true rfl, Nat.le_of_ble_eq_true rfl⟩) (z_preR (fun k q h => by simp at h) hG) rfl rfl hl.1 rfl (lv_room (Nat.le_of_ble_eq_true rfl)) dX7_canBe_45 ⟨Nat.zero_le _, Nat.zero_le _⟩) (fun r7 hr7 => ?_)
      rcases hr7 with ⟨rfl, c8⟩ | ⟨rfl, c8⟩
      · -- 45 t
        exact hret _ _ _ dX7_canBe_48 (Or.inl ⟨rfl, by unfold canP; first | exact Or.inl ⟨Or.inl rfl, by assumption⟩ | exact Or.inl ⟨Or.inr rfl, by assumption⟩ | exact Or.inr (Or.inl ⟨rfl, by assumption⟩) | exact Or.inr (Or.inr (Or.inl ⟨rfl, by assumption⟩)) | exact Or.inr (Or.inr (Or.inr ⟨by assumption, by assumption⟩))⟩)
      · -- 45 f
        exact hret _ _ _ dX7_canBe_48 (Or.inr ⟨rfl, by rintro (⟨q1, q2⟩ | ⟨q1, q2⟩ | ⟨q1, q2⟩ | ⟨q1, q2⟩) <;> first | exact absurd q2 (by assumption) | exact absurd q1 (by assumption) | exact absurd q1 (by decide) | (rcases q1 with rfl | rfl <;> exact absurd (by assumption : (_ ∨ _)) (by decide)) | (subst q1; exact absurd (by assumption : (_ ∨ _)) (by decide))⟩)
    · -- 1 case 2
      subst hk
      refine lv_tableIn (tgt := 32) (off := 31) hx hb dX7_canBe_1 (by decide) (by decide) (by decide) (by decide) ?_
      have hl : lv_has ls 2 [(0, .int (nI 2)), (1, .int v)] := hl
      refine lv_iload_n hx hb dX7_canBe_32 rfl (lv_at hl 1 rfl) ?_
      refine lv_iconst (v := nI 0) hx hb dX7_canBe_33 (by decide) ?_
      refine lv_sipush (v := nI 1000) hx hb dX7_canBe_34 (by decide) ?_
      refine z_rd (fun _ h => h) (va_runS (As := [.int v, .int (nI 0), .int (nI 1000)]) (rest := []) hF (c_X7_in l E v (nI 0) (nI 1000) ) (va_cwS 3 hts gX7_canBe_X7_in rfl rfl rfl (by decide +kernel) ⟨Nat.le_of_ble_eq_true rfl, Nat.le_of_ble_eq_true rfl⟩) (z_preR (fun k q h => by simp at h) hG) rfl rfl hl.1 rfl (lv_room (Nat.le_of_ble_eq_true rfl)) dX7_canBe_37 ⟨Nat.zero_le _, Nat.zero_le _⟩) (fun r9 hr9 => ?_)
      rcases hr9 with ⟨rfl, c10⟩ | ⟨rfl, c10⟩
      · -- 37 t
        exact hret _ _ _ dX7_canBe_40 (Or.inl ⟨rfl, by unfold canP; first | exact Or.inl ⟨Or.inl rfl, by assumption⟩ | exact Or.inl ⟨Or.inr rfl, by assumption⟩ | exact Or.inr (Or.inl ⟨rfl, by assumption⟩) | exact Or.inr (Or.inr (Or.inl ⟨rfl, by assumption⟩)) | exact Or.inr (Or.inr (Or.inr ⟨by assumption, by assumption⟩))⟩)
      · -- 37 f
        exact hret _ _ _ dX7_canBe_40 (Or.inr ⟨rfl, by rintro (⟨q1, q2⟩ | ⟨q1, q2⟩ | ⟨q1, q2⟩ | ⟨q1, q2⟩) <;> first | exact absurd q2 (by assumption) | exact absurd q1 (by assumption) | exact absurd q1 (by decide) | (rcases q1 with rfl | rfl <;> exact absurd (by assumption : (_ ∨ _)) (by decide)) | (subst q1; exact absurd (by assumption : (_ ∨ _)) (by decide))⟩)
    · -- 1 case 3
      subst hk
      refine lv_tableIn (tgt := 49) (off := 48) hx hb dX7_canBe_1 (by decide) (by decide) (by decide) (by decide) ?_
      have hl : lv_has ls 2 [(0, .int (nI 3)), (1, .int v)] := hl
      refine lv_iload_n hx hb dX7_canBe_49 rfl (lv_at hl 1 rfl) ?_
      refine lv_iconst (v := nI 1) hx hb dX7_canBe_50 (by decide) ?_
      refine lv_ldc (v := nI 1000000) hx hb hown (hts (.constant RX7 22 1000000) (by decide +kernel)) dX7_canBe_51 ?_
      refine z_rd (fun _ h => h) (va_runS (As := [.int v, .int (nI 1), .int (nI 1000000)]) (rest := []) hF (c_X7_in l E v (nI 1) (nI 1000000) ) (va_cwS 3 hts gX7_canBe_X7_in rfl rfl rfl (by decide +kernel) ⟨Nat.le_of_ble_eq_true rfl, Nat.le_of_ble_eq_true rfl⟩) (z_preR (fun k q h => by simp at h) hG) rfl rfl hl.1 rfl (lv_room (Nat.le_of_ble_eq_true rfl)) dX7_canBe_53 ⟨Nat.zero_le _, Nat.zero_le _⟩) (fun r11 hr11 => ?_)
      rcases hr11 with ⟨rfl, c12⟩ | ⟨rfl, c12⟩
      · -- 53 t
        exact hret _ _ _ dX7_canBe_56 (Or.inl ⟨rfl, by unfold canP; first | exact Or.inl ⟨Or.inl rfl, by assumption⟩ | exact Or.inl ⟨Or.inr rfl, by assumption⟩ | exact Or.inr (Or.inl ⟨rfl, by assumption⟩) | exact Or.inr (Or.inr (Or.inl ⟨rfl, by assumption⟩)) | exact Or.inr (Or.inr (Or.inr ⟨by assumption, by assumption⟩))⟩)
      · -- 53 f
        exact hret _ _ _ dX7_canBe_56 (Or.inr ⟨rfl, by rintro (⟨q1, q2⟩ | ⟨q1, q2⟩ | ⟨q1, q2⟩ | ⟨q1, q2⟩) <;> first | exact absurd q2 (by assumption) | exact absurd q1 (by assumption) | exact absurd q1 (by decide) | (rcases q1 with rfl | rfl <;> exact absurd (by assumption : (_ ∨ _)) (by decide)) | (subst q1; exact absurd (by assumption : (_ ∨ _)) (by decide))⟩)
theorem iwX7_set_X7_c_X7_set : ∀ w ∈ wsX70, w ∈ wsX7_set := by decide +kernel
set_option maxHeartbeats 1000000 in
set_option maxRecDepth 100000 in
theorem c_X7_set (l : Launch) (E : zE) (x ms mp mt md pz len sp fm : Nat) (q1 q2 q3 q4 q5 a v : Int32) (M Pa : Nat → Nat) (hpz : pz ≤ 4) : zM l yX7_set wsX7_set ({ frames := 2, cells := 0, slots := 0, locals := 43 }) E [.ref x, .int a, .int v] [(x, .inr (7, [.ref ms, .ref mp, .int (nI pz), .ref mt, .int (nI len), .ref md, .int (nI sp), .int q1, .int q2, .int q3, .int q4, .int q5, .int (nI fm)])), (ms, .inl (E.2.1, 265, .inl (fun zz => nI (M zz)))), (mp, .inl (E.2.1, 1060, .inl (fun zz => nI (Pa zz))))] (fun r w' => (r = (-1) ∧ (¬ canP a v) ∧ w' = [(x, .inr (7, [.ref ms, .ref mp, .int (nI pz), .ref mt, .int (nI len), .ref md, .int (nI sp), .int q1, .int q2, .int q3, .int q4, .int q5, .int (nI fm)])), (ms, .inl (E.2.1, 265, .inl (fun zz => nI (M zz)))), (mp, .inl (E.2.1, 1060, .inl (fun zz => nI (Pa zz))))]) ∨ (∃ (k : Nat) (w : Nat), r = nI (M (4 + k)) ∧ (a = nI k ∧ v = nI w ∧ k < 5 ∧ stO k w) ∧ w' = [(x, .inr (7, [.ref ms, .ref mp, .int (nI (rcS pz)), .ref mt, .int (nI len), .ref md, .int (nI sp), .int q1, .int q2, .int q3, .int q4, .int q5, .int (nI fm)])), (ms, .inl (E.2.1, 265, .inl (fun zz => nI ((va_up M (4 + k) w) zz)))), (mp, .inl (E.2.1, 1060, .inl (fun zz => nI ((rcP Pa M pz) zz))))])) := by
  refine zM.start (own := RX7) rfl (by decide +kernel) rfl (Nat.le_of_ble_eq_true rfl) (fun _ _ _ => rfl) ?_
  intro pZ eZ sZ mZ argsZ belowZ methZ cZ QZ AZ hF hret HZ locsZ hP hD hS hG ls hl
  obtain ⟨hx, hb, hml, hown, hts⟩ := id hF
  have hl : lv_has ls 4 [(0, .ref x), (1, .int a), (2, .int v)] := hl
  refine lv_iload_n hx hb dX7_set_0 rfl (lv_at hl 1 rfl) ?_
  refine lv_iload_n hx hb dX7_set_1 rfl (lv_at hl 2 rfl) ?_
  refine z_rd (fun _ h => h) (va_runS (As := [.int a, .int v]) (rest := []) hF (c_X7_canBe l E a v ) (va_cwS 2 hts gX7_set_X7_canBe rfl rfl rfl (by decide +kernel) ⟨Nat.le_of_ble_eq_true rfl, Nat.le_of_ble_eq_true rfl⟩) (z_preR (fun k q h => by simp at h) hG) rfl rfl hl.1 rfl (lv_room (Nat.le_of_ble_eq_true rfl)) dX7_set_2 ⟨Nat.zero_le _, Nat.zero_le _⟩) (fun r1 hr1 => ?_)
  rcases hr1 with ⟨rfl, c2⟩ | ⟨rfl, c2⟩
  · -- 2 t
    obtain ⟨k, w, rfl, rfl, hk5, hst⟩ := can_n c2
    refine lv_if_ne (tgt := 10) hx hb dX7_set_5 (by decide) (fun _ => ?_) (fun c => absurd c (by decide))
    refine lv_aload_n hx hb dX7_set_10 rfl (lv_at hl 0 rfl) ?_
    have hPc := zP_sub (w := [(x, .inr (7, [.ref ms, .ref mp, .int (nI pz), .ref mt, .int (nI len), .ref md, .int (nI sp), .int q1, .int q2, .int q3, .int q4, .int q5, .int (nI fm)])), (ms, .inl (E.2.1, 265, .inl (fun zz => nI (M zz)))), (mp, .inl (E.2.1, 1060, .inl (fun zz => nI (Pa zz))))]) hP [0, 1, 2] rfl
    have hDc := zD_sub (w := [(x, .inr (7, [.ref ms, .ref mp, .int (nI pz), .ref mt, .int (nI len), .ref md, .int (nI sp), .int q1, .int q2, .int q3, .int q4, .int q5, .int (nI fm)])), (ms, .inl (E.2.1, 265, .inl (fun zz => nI (M zz)))), (mp, .inl (E.2.1, 1060, .inl (fun zz => nI (Pa zz))))]) hD [0, 1, 2] (by decide) rfl
    refine z_vd [0, 1, 2] (va_runV (As := []) (rest := []) hF (c_X7_records l E x ms mp mt md pz len sp fm q1 q2 q3 q4 q5 M Pa (by first | assumption | omega)) (cwV 0 hts gX7_set_X7_records rfl rfl rfl (by decide +kernel) ⟨Nat.le_of_ble_eq_true rfl, Nat.le_of_ble_eq_true rfl⟩) (z_preMV (va_recv hG.1 hP (ci := 7) (q0 := 0) rfl rfl) hPc hDc hG) rfl rfl hl.1 rfl (lv_room (Nat.le_of_ble_eq_true rfl)) dX7_set_11 ⟨Nat.zero_le _, Nat.zero_le _⟩) hP hD hS rfl (fun w' HZ locsZ hw hP hD hS => ?_)
    subst hw
    have hP : va_P E.1 vwCl [(x, .inr (7, [.ref ms, .ref mp, .int (nI (rcS pz)), .ref mt, .int (nI len), .ref md, .int (nI sp), .int q1, .int q2, .int q3, .int q4, .int q5, .int (nI fm)])), (ms, .inl (E.2.1, 265, .inl (fun zz => nI (M zz)))), (mp, .inl (E.2.1, 1060, .inl (fun zz => nI ((rcP Pa M pz) zz))))] _ := hP
    have hD : va_D AZ [(x, .inr (7, [.ref ms, .ref mp, .int (nI (rcS pz)), .ref mt, .int (nI len), .ref md, .int (nI sp), .int q1, .int q2, .int q3, .int q4, .int q5, .int (nI fm)])), (ms, .inl (E.2.1, 265, .inl (fun zz => nI (M zz)))), (mp, .inl (E.2.1, 1060, .inl (fun zz => nI ((rcP Pa M pz) zz))))] := hD
    refine lv_aload_n hx hb dX7_set_14 rfl (lv_at hl 0 rfl) ?_
    refine lv_iload_n hx hb dX7_set_15 rfl (lv_at hl 1 rfl) ?_
    have hPc := zP_sub (w := [(x, .inr (7, [.ref ms, .ref mp, .int (nI (rcS pz)), .ref mt, .int (nI len), .ref md, .int (nI sp), .int q1, .int q2, .int q3, .int q4, .int q5, .int (nI fm)])), (ms, .inl (E.2.1, 265, .inl (fun zz => nI (M zz))))]) hP [0, 1] rfl
    refine z_rd (fun _ h => h) (va_runV (As := [.int (nI k)]) (rest := []) hF (c_X7_setting l E x ms mp mt md (rcS pz) len sp fm k q1 q2 q3 q4 q5 M (by first | assumption | omega)) (cwV 1 hts gX7_set_X7_setting rfl rfl rfl (by decide +kernel) ⟨Nat.le_of_ble_eq_true rfl, Nat.le_of_ble_eq_true rfl⟩) (z_preRV (va_recv hG.1 hP (ci := 7) (q0 := 0) rfl rfl) hPc hG) rfl rfl hl.1 rfl (lv_room (Nat.le_of_ble_eq_true rfl)) dX7_set_16 ⟨Nat.zero_le _, Nat.zero_le _⟩) (fun r3 hr3 => ?_)
    subst hr3
    refine lv_istore_n (lv' := [(3, .int (nI (M (4 + k)))), (0, .ref x), (1, .int (nI k)), (2, .int (nI w))]) hx hb dX7_set_19 rfl hl (by decide) rfl (fun ls hl => ?_)
    refine lv_aload_n hx hb dX7_set_20 rfl (lv_at hl 1 rfl) ?_
    refine va_get (D := E.1) (ci := 7) (v := .ref ms) (C := RX7) (T := TX7) (N := 13) hx hb hts iwX7_set_X7_c_X7_set hown hG.1 hP 0 rfl rfl 0 (by decide) (hts (.fieldLink RX7 7 "FrettedStringsModel" "st" "[I") (by decide +kernel)) (fun _ h9 => h9) rfl dX7_set_21 ?_
    refine lv_iconst (v := nI 4) hx hb dX7_set_24 (by decide) ?_
    refine lv_iload_n hx hb dX7_set_25 rfl (lv_at hl 2 rfl) ?_
    refine z_iadd (a := 4) (b := k) hx hb dX7_set_26 ?_
    refine lv_iload_n hx hb dX7_set_27 rfl (lv_at hl 3 rfl) ?_
    refine z_iast (j := 4 + k) (v := w) (g := va_up M (4 + k) w) hx hb hG hP hD hS 1 rfl (by omega) (by decide) (rfl) dX7_set_28 (fun HZ locsZ hP hD hS => ?_)
    have hP : va_P E.1 vwCl [(x, .inr (7, [.ref ms, .ref mp, .int (nI (rcS pz)), .ref mt, .int (nI len), .ref md, .int (nI sp), .int q1, .int q2, .int q3, .int q4, .int q5, .int (nI fm)])), (ms, .inl (E.2.1, 265, .inl (fun zz => nI ((va_up M (4 + k) w) zz)))), (mp, .inl (E.2.1, 1060, .inl (fun zz => nI ((rcP Pa M pz) zz))))] _ := hP
    have hD : va_D AZ [(x, .inr (7, [.ref ms, .ref mp, .int (nI (rcS pz)), .ref mt, .int (nI len), .ref md, .int (nI sp), .int q1, .int q2, .int q3, .int q4, .int q5, .int (nI fm)])), (ms, .inl (E.2.1, 265, .inl (fun zz => nI ((va_up M (4 + k) w) zz)))), (mp, .inl (E.2.1, 1060, .inl (fun zz => nI ((rcP Pa M pz) zz))))] := hD
    refine lv_iload_n hx hb dX7_set_29 rfl (lv_at hl 0 rfl) ?_
    exact hret _ _ _ _ _ _ hP hS dX7_set_30 rfl (Or.inr (⟨k, w, rfl, ⟨rfl, rfl, by omega, hst⟩, rfl⟩))
  · -- 2 f
    refine lv_if_ne (tgt := 10) hx hb dX7_set_5 (by decide) (fun c => absurd c (by decide)) (fun _ => ?_)
    refine lv_iconst (v := (-1)) hx hb dX7_set_8 (by decide) ?_
    exact hret _ _ _ _ _ _ hP hS dX7_set_9 rfl (Or.inl ⟨rfl, by assumption, rfl⟩)
theorem iwX7_run_X7_c_X7_run : ∀ w ∈ wsX70, w ∈ wsX7_run := by decide +kernel
set_option maxHeartbeats 1000000 in
set_option maxRecDepth 100000 in
theorem c_X7_run (l : Launch) (E : zE) (x ms mp mt md pz len sp fm : Nat) (q1 q2 q3 q4 q5 a : Int32) (M Pa : Nat → Nat) (hn : M 0 ≤ 12) (hPb : ∀ i, i < 12 → mP M i ≤ 2400) (hHb : ∀ i, i < 12 → mH M i ≤ 2000) (hprn : ∀ i, i < 4 → mPr M i ≤ M 0) (hfi : ∀ i, i < 4 → mFi M i ≤ 2519) (ham : ∀ i, i < 48 → mAm M i ≤ 1000000) (h40 : M 4 ≤ 1000) (h50 : M 5 ≤ 100) (h60 : M 6 ≤ 1000) (hse4 : M 8 ≤ 100000) (hpz : pz ≤ 4) (htk : M 1 ≤ 100000) : zM l yX7_run wsX7_run ({ frames := 9, cells := 0, slots := 0, locals := 206 }) E [.ref x, .int a] [(x, .inr (7, [.ref ms, .ref mp, .int (nI pz), .ref mt, .int (nI len), .ref md, .int (nI sp), .int q1, .int q2, .int q3, .int q4, .int q5, .int (nI fm)])), (ms, .inl (E.2.1, 265, .inl (fun zz => nI (M zz)))), (mp, .inl (E.2.1, 1060, .inl (fun zz => nI (Pa zz))))] (fun r w' => (r = (-1) ∧ (¬ (nI 1 ≤ a ∧ a ≤ nI 500)) ∧ w' = [(x, .inr (7, [.ref ms, .ref mp, .int (nI pz), .ref mt, .int (nI len), .ref md, .int (nI sp), .int q1, .int q2, .int q3, .int q4, .int q5, .int (nI fm)])), (ms, .inl (E.2.1, 265, .inl (fun zz => nI (M zz)))), (mp, .inl (E.2.1, 1060, .inl (fun zz => nI (Pa zz))))]) ∨ (∃ (k : Nat), r = (-3) ∧ (a = nI k ∧ 1 ≤ k ∧ k ≤ 500 ∧ 100000 < M 1 + k) ∧ w' = [(x, .inr (7, [.ref ms, .ref mp, .int (nI pz), .ref mt, .int (nI len), .ref md, .int (nI sp), .int q1, .int q2, .int q3, .int q4, .int q5, .int (nI fm)])), (ms, .inl (E.2.1, 265, .inl (fun zz => nI (M zz)))), (mp, .inl (E.2.1, 1060, .inl (fun zz => nI (Pa zz))))]) ∨ (∃ (k : Nat), r = nI (hrL (mAm (va_up (gnL M k 48) 1 (M 1 + k))) (M 8) 4) ∧ (a = nI k ∧ 1 ≤ k ∧ k ≤ 500 ∧ M 1 + k ≤ 100000) ∧ w' = [(x, .inr (7, [.ref ms, .ref mp, .int (nI (rcS pz)), .ref mt, .int (nI len), .ref md, .int (nI sp), .int q1, .int q2, .int q3, .int q4, .int q5, .int (nI fm)])), (ms, .inl (E.2.1, 265, .inl (fun zz => nI ((va_up (gnL M k 48) 1 (M 1 + k)) zz)))), (mp, .inl (E.2.1, 1060, .inl (fun zz => nI ((rcP Pa M pz) zz))))])) := by
  refine zM.start (own := RX7) rfl (by decide +kernel) rfl (Nat.le_of_ble_eq_true rfl) (fun _ _ _ => rfl) ?_
  intro pZ eZ sZ mZ argsZ belowZ methZ cZ QZ AZ hF hret HZ locsZ hP hD hS hG ls hl
  obtain ⟨hx, hb, hml, hown, hts⟩ := id hF
  have hl : lv_has ls 2 [(0, .ref x), (1, .int a)] := hl
  refine lv_iload_n hx hb dX7_run_0 rfl (lv_at hl 1 rfl) ?_
  refine lv_iconst (v := nI 1) hx hb dX7_run_1 (by decide) ?_
  refine lv_sipush (v := nI 500) hx hb dX7_run_2 (by decide) ?_
  refine z_rd (fun _ h => h) (va_runS (As := [.int a, .int (nI 1), .int (nI 500)]) (rest := []) hF (c_X7_in l E a (nI 1) (nI 500) ) (va_cwS 3 hts gX7_run_X7_in rfl rfl rfl (by decide +kernel) ⟨Nat.le_of_ble_eq_true rfl, Nat.le_of_ble_eq_true rfl⟩) (z_preR (fun k q h => by simp at h) hG) rfl rfl hl.1 rfl (lv_room (Nat.le_of_ble_eq_true rfl)) dX7_run_5 ⟨Nat.zero_le _, Nat.zero_le _⟩) (fun r1 hr1 => ?_)
  rcases hr1 with ⟨rfl, c2⟩ | ⟨rfl, c2⟩
  · -- 5 t
    obtain ⟨k, hk1, hk2, rfl⟩ := z_ge (by omega) (by omega) c2.1 c2.2
    have e8 : (va_up (gnL M k 48) 1 (M 1 + k)) 8 = M 8 := by simp only [va_up, gnL]; rw [if_neg (by omega), if_neg (by omega)]
    refine lv_if_ne (tgt := 13) hx hb dX7_run_8 (by decide) (fun _ => ?_) (fun c => absurd c (by decide))
    refine lv_aload_n hx hb dX7_run_13 rfl (lv_at hl 0 rfl) ?_
    refine va_get (D := E.1) (ci := 7) (v := .ref ms) (C := RX7) (T := TX7) (N := 13) hx hb hts iwX7_run_X7_c_X7_run hown hG.1 hP 0 rfl rfl 0 (by decide) (hts (.fieldLink RX7 7 "FrettedStringsModel" "st" "[I") (by decide +kernel)) (fun _ h9 => h9) rfl dX7_run_14 ?_
    refine lv_iconst (v := nI 1) hx hb dX7_run_17 (by decide) ?_
    refine z_iald (j := 1) (v := M 1) hx hb hG hP 1 rfl (by omega) (by decide) (rfl) dX7_run_18 ?_
    refine lv_iload_n hx hb dX7_run_19 rfl (lv_at hl 1 rfl) ?_
    refine z_iadd (a := M 1) (b := k) hx hb dX7_run_20 ?_
    refine lv_ldc (v := nI 100000) hx hb hown (hts (.constant RX7 148 100000) (by decide +kernel)) dX7_run_21 ?_
    refine z_icmp_le (a := (M 1) + k) (b := 100000) (tgt := 29) hx hb dX7_run_23 (by decide) (by omega) (by omega) (fun c3 => ?_) (fun c3 => ?_)
    · -- 23 t
      refine lv_aload_n hx hb dX7_run_29 rfl (lv_at hl 0 rfl) ?_
      have hPc := zP_sub (w := [(x, .inr (7, [.ref ms, .ref mp, .int (nI pz), .ref mt, .int (nI len), .ref md, .int (nI sp), .int q1, .int q2, .int q3, .int q4, .int q5, .int (nI fm)])), (ms, .inl (E.2.1, 265, .inl (fun zz => nI (M zz)))), (mp, .inl (E.2.1, 1060, .inl (fun zz => nI (Pa zz))))]) hP [0, 1, 2] rfl
      have hDc := zD_sub (w := [(x, .inr (7, [.ref ms, .ref mp, .int (nI pz), .ref mt, .int (nI len), .ref md, .int (nI sp), .int q1, .int q2, .int q3, .int q4, .int q5, .int (nI fm)])), (ms, .inl (E.2.1, 265, .inl (fun zz => nI (M zz)))), (mp, .inl (E.2.1, 1060, .inl (fun zz => nI (Pa zz))))]) hD [0, 1, 2] (by decide) rfl
      refine z_vd [0, 1, 2] (va_runV (As := []) (rest := []) hF (c_X7_records l E x ms mp mt md pz len sp fm q1 q2 q3 q4 q5 M Pa (by first | assumption | omega)) (cwV 0 hts gX7_run_X7_records rfl rfl rfl (by decide +kernel) ⟨Nat.le_of_ble_eq_true rfl, Nat.le_of_ble_eq_true rfl⟩) (z_preMV (va_recv hG.1 hP (ci := 7) (q0 := 0) rfl rfl) hPc hDc hG) rfl rfl hl.1 rfl (lv_room (Nat.le_of_ble_eq_true rfl)) dX7_run_30 ⟨Nat.zero_le _, Nat.zero_le _⟩) hP hD hS rfl (fun w' HZ locsZ hw hP hD hS => ?_)
      subst hw
      have hP : va_P E.1 vwCl [(x, .inr (7, [.ref ms, .ref mp, .int (nI (rcS pz)), .ref mt, .int (nI len), .ref md, .int (nI sp), .int q1, .int q2, .int q3, .int q4, .int q5, .int (nI fm)])), (ms, .inl (E.2.1, 265, .inl (fun zz => nI (M zz)))), (mp, .inl (E.2.1, 1060, .inl (fun zz => nI ((rcP Pa M pz) zz))))] _ := hP
      have hD : va_D AZ [(x, .inr (7, [.ref ms, .ref mp, .int (nI (rcS pz)), .ref mt, .int (nI len), .ref md, .int (nI sp), .int q1, .int q2, .int q3, .int q4, .int q5, .int (nI fm)])), (ms, .inl (E.2.1, 265, .inl (fun zz => nI (M zz)))), (mp, .inl (E.2.1, 1060, .inl (fun zz => nI ((rcP Pa M pz) zz))))] := hD
      refine lv_aload_n hx hb dX7_run_33 rfl (lv_at hl 0 rfl) ?_
      refine lv_iload_n hx hb dX7_run_34 rfl (lv_at hl 1 rfl) ?_
      have hPc := zP_sub (w := [(x, .inr (7, [.ref ms, .ref mp, .int (nI (rcS pz)), .ref mt, .int (nI len), .ref md, .int (nI sp), .int q1, .int q2, .int q3, .int q4, .int q5, .int (nI fm)])), (ms, .inl (E.2.1, 265, .inl (fun zz => nI (M zz))))]) hP [0, 1] rfl
      have hDc := zD_sub (w := [(x, .inr (7, [.ref ms, .ref mp, .int (nI (rcS pz)), .ref mt, .int (nI len), .ref md, .int (nI sp), .int q1, .int q2, .int q3, .int q4, .int q5, .int (nI fm)])), (ms, .inl (E.2.1, 265, .inl (fun zz => nI (M zz))))]) hD [0, 1] (by decide) rfl
      refine z_vd [0, 1] (va_runV (As := [.int (nI k)]) (rest := []) hF (c_X7_goesOn l E x ms mp mt md (rcS pz) len sp fm k q1 q2 q3 q4 q5 M (by first | assumption | omega) (by first | assumption | omega) (by first | assumption | omega) (by first | assumption | omega) (by first | assumption | omega) (by first | assumption | omega) (by first | assumption | omega) (by first | assumption | omega) (by first | assumption | omega) (by first | assumption | omega)) (cwV 1 hts gX7_run_X7_goesOn rfl rfl rfl (by decide +kernel) ⟨Nat.le_of_ble_eq_true rfl, Nat.le_of_ble_eq_true rfl⟩) (z_preMV (va_recv hG.1 hP (ci := 7) (q0 := 0) rfl rfl) hPc hDc hG) rfl rfl hl.1 rfl (lv_room (Nat.le_of_ble_eq_true rfl)) dX7_run_35 ⟨Nat.zero_le _, Nat.zero_le _⟩) hP hD hS rfl (fun w' HZ locsZ hw hP hD hS => ?_)
      subst hw
      have hP : va_P E.1 vwCl [(x, .inr (7, [.ref ms, .ref mp, .int (nI (rcS pz)), .ref mt, .int (nI len), .ref md, .int (nI sp), .int q1, .int q2, .int q3, .int q4, .int q5, .int (nI fm)])), (ms, .inl (E.2.1, 265, .inl (fun zz => nI ((va_up (gnL M k 48) 1 (M 1 + k)) zz)))), (mp, .inl (E.2.1, 1060, .inl (fun zz => nI ((rcP Pa M pz) zz))))] _ := hP
      have hD : va_D AZ [(x, .inr (7, [.ref ms, .ref mp, .int (nI (rcS pz)), .ref mt, .int (nI len), .ref md, .int (nI sp), .int q1, .int q2, .int q3, .int q4, .int q5, .int (nI fm)])), (ms, .inl (E.2.1, 265, .inl (fun zz => nI ((va_up (gnL M k 48) 1 (M 1 + k)) zz)))), (mp, .inl (E.2.1, 1060, .inl (fun zz => nI ((rcP Pa M pz) zz))))] := hD
      refine lv_aload_n hx hb dX7_run_38 rfl (lv_at hl 0 rfl) ?_
      have hPc := zP_sub (w := [(x, .inr (7, [.ref ms, .ref mp, .int (nI (rcS pz)), .ref mt, .int (nI len), .ref md, .int (nI sp), .int q1, .int q2, .int q3, .int q4, .int q5, .int (nI fm)])), (ms, .inl (E.2.1, 265, .inl (fun zz => nI ((va_up (gnL M k 48) 1 (M 1 + k)) zz))))]) hP [0, 1] rfl
      refine z_rd (fun _ h => h) (va_runV (As := []) (rest := []) hF (c_X7_heardOnes l E x ms mp mt md (rcS pz) len sp fm q1 q2 q3 q4 q5 (va_up (gnL M k 48) 1 (M 1 + k)) (gn_am ham) (by rw [e8]; assumption)) (cwV 0 hts gX7_run_X7_heardOnes rfl rfl rfl (by decide +kernel) ⟨Nat.le_of_ble_eq_true rfl, Nat.le_of_ble_eq_true rfl⟩) (z_preRV (va_recv hG.1 hP (ci := 7) (q0 := 0) rfl rfl) hPc hG) rfl rfl hl.1 rfl (lv_room (Nat.le_of_ble_eq_true rfl)) dX7_run_39 ⟨Nat.zero_le _, Nat.zero_le _⟩) (fun r4 hr4 => ?_)
      subst hr4
      have e5 : hrL (mAm (va_up (gnL M k 48) 1 (M 1 + k))) ((va_up (gnL M k 48) 1 (M 1 + k)) 8) 4 = hrL (mAm (va_up (gnL M k 48) 1 (M 1 + k))) (M 8) 4 := by rw [e8]
      rw [e5]
      exact hret _ _ _ _ _ _ hP hS dX7_run_42 rfl (Or.inr (Or.inr (⟨k, rfl, ⟨rfl, by omega, by omega, by omega⟩, rfl⟩)))
    · -- 23 f
      refine lv_bipush (v := (-3)) hx hb dX7_run_26 (by decide) ?_
      exact hret _ _ _ _ _ _ hP hS dX7_run_28 rfl (Or.inr (Or.inl ⟨k, rfl, ⟨rfl, by omega, by omega, by omega⟩, rfl⟩))
  · -- 5 f
    refine lv_if_ne (tgt := 13) hx hb dX7_run_8 (by decide) (fun c => absurd c (by decide)) (fun _ => ?_)
    refine lv_iconst (v := (-1)) hx hb dX7_run_11 (by decide) ?_
    exact hret _ _ _ _ _ _ hP hS dX7_run_12 rfl (Or.inl ⟨rfl, by assumption, rfl⟩)
set_option maxHeartbeats 1000000 in
set_option maxRecDepth 100000 in
theorem c_X7_ticksTo (l : Launch) (E : zE) (x ms mp mt md pz len sp fm : Nat) (q1 q2 q3 q4 q5 a v : Int32) (M : Nat → Nat) (hn : M 0 ≤ 12) (hPb : ∀ i, i < 12 → mP M i ≤ 2400) (hHb : ∀ i, i < 12 → mH M i ≤ 2000) (hprn : ∀ i, i < 4 → mPr M i ≤ M 0) (hfi : ∀ i, i < 4 → mFi M i ≤ 2519) (ham : ∀ i, i < 48 → mAm M i ≤ 1000000) (h40 : M 4 ≤ 1000) (h50 : M 5 ≤ 100) (h60 : M 6 ≤ 1000) (hse4 : M 8 ≤ 100000) : zR l yX7_ticksTo wsX7_ticksTo ({ frames := 8, cells := 0, slots := 0, locals := 180 }) E [.ref x, .int a, .int v] [(x, .inr (7, [.ref ms, .ref mp, .int (nI pz), .ref mt, .int (nI len), .ref md, .int (nI sp), .int q1, .int q2, .int q3, .int q4, .int q5, .int (nI fm)])), (ms, .inl (E.2.1, 265, .inl (fun zz => nI (M zz))))] (fun r => (r = (-1) ∧ (¬ ((nI 0 ≤ a ∧ a ≤ nI 3) ∧ (nI 1 ≤ v ∧ v ≤ nI 12)))) ∨ (∃ (s : Nat) (n : Nat) (r9 : Int32), r = r9 ∧ (a = nI s ∧ v = nI n ∧ s < 4 ∧ 1 ≤ n ∧ n ≤ 12 ∧ r9 = ttu (M 8) (M 4) (M 5) (M 6) n (mdm M s n) 2001 0 (M (61 + 12 * s + n - 1))))) := by
  refine zR.start (own := RX7) rfl (by decide +kernel) rfl (Nat.le_of_ble_eq_true rfl) (fun _ _ => rfl) ?_
  intro pZ eZ sZ mZ argsZ belowZ methZ cZ QZ hF hret hP hG ls hl
  obtain ⟨hx, hb, hml, hown, hts⟩ := id hF
  have hl : lv_has ls 6 [(0, .ref x), (1, .int a), (2, .int v)] := hl
  refine lv_iload_n hx hb dX7_ticksTo_0 rfl (lv_at hl 1 rfl) ?_
  refine z_rd (fun _ h => h) (va_runS (As := [.int a]) (rest := []) hF (c_X7_isString l E a ) (va_cwS 1 hts gX7_ticksTo_X7_isString rfl rfl rfl (by decide +kernel) ⟨Nat.le_of_ble_eq_true rfl, Nat.le_of_ble_eq_true rfl⟩) (z_preR (fun k q h => by simp at h) hG) rfl rfl hl.1 rfl (lv_room (Nat.le_of_ble_eq_true rfl)) dX7_ticksTo_1 ⟨Nat.zero_le _, Nat.zero_le _⟩) (fun r1 hr1 => ?_)
  rcases hr1 with ⟨rfl, c2⟩ | ⟨rfl, c2⟩
  · -- 1 t
    have ka := c2
    refine lv_if_eq (tgt := 14) hx hb dX7_ticksTo_4 (by decide) (fun c => absurd c (by decide)) (fun _ => ?_)
    refine lv_iload_n hx hb dX7_ticksTo_7 rfl (lv_at hl 2 rfl) ?_
    refine z_rd (fun _ h => h) (va_runS (As := [.int v]) (rest := []) hF (c_X7_isMode l E v ) (va_cwS 1 hts gX7_ticksTo_X7_isMode rfl rfl rfl (by decide +kernel) ⟨Nat.le_of_ble_eq_true rfl, Nat.le_of_ble_eq_true rfl⟩) (z_preR (fun k q h => by simp at h) hG) rfl rfl hl.1 rfl (lv_room (Nat.le_of_ble_eq_true rfl)) dX7_ticksTo_8 ⟨Nat.zero_le _, Nat.zero_le _⟩) (fun r3 hr3 => ?_)
    rcases hr3 with ⟨rfl, c4⟩ | ⟨rfl, c4⟩
    · -- 8 t
      obtain ⟨s, hs1, hs2, rfl⟩ := z_ge (by omega) (by omega) ka.1 ka.2
      obtain ⟨n, hn1, hn2, rfl⟩ := z_ge (by omega) (by omega) c4.1 c4.2
      have hab := am_at ham (show s < 4 by omega) hn1 hn2
      refine lv_if_ne (tgt := 16) hx hb dX7_ticksTo_11 (by decide) (fun _ => ?_) (fun c => absurd c (by decide))
      refine lv_aload_n hx hb dX7_ticksTo_16 rfl (lv_at hl 0 rfl) ?_
      refine lv_iload_n hx hb dX7_ticksTo_17 rfl (lv_at hl 1 rfl) ?_
      refine lv_iload_n hx hb dX7_ticksTo_18 rfl (lv_at hl 2 rfl) ?_
      have hPc := zP_sub (w := [(x, .inr (7, [.ref ms, .ref mp, .int (nI pz), .ref mt, .int (nI len), .ref md, .int (nI sp), .int q1, .int q2, .int q3, .int q4, .int q5, .int (nI fm)])), (ms, .inl (E.2.1, 265, .inl (fun zz => nI (M zz))))]) hP [0, 1] rfl
      refine z_rd (fun _ h => h) (va_runV (As := [.int (nI s), .int (nI n)]) (rest := []) hF (c_X7_isDamped l E x ms mp mt md pz len sp fm s n q1 q2 q3 q4 q5 M (by first | assumption | omega) (by first | assumption | omega) (by first | assumption | omega) (by first | assumption | omega) (by first | assumption | omega) (by first | assumption | omega) (by first | assumption | omega) (by first | assumption | omega)) (cwV 2 hts gX7_ticksTo_X7_isDamped rfl rfl rfl (by decide +kernel) ⟨Nat.le_of_ble_eq_true rfl, Nat.le_of_ble_eq_true rfl⟩) (z_preRV (va_recv hG.1 hP (ci := 7) (q0 := 0) rfl rfl) hPc hG) rfl rfl hl.1 rfl (lv_room (Nat.le_of_ble_eq_true rfl)) dX7_ticksTo_19 ⟨Nat.zero_le _, Nat.zero_le _⟩) (fun r5 hr5 => ?_)
      rcases hr5 with ⟨rfl, c6⟩ | ⟨rfl, c6⟩
      · -- 19 t
        have hdm : mdm M s n = 1 := if_pos c6
        refine lv_istore_n (lv' := [(3, .int (nI 1)), (0, .ref x), (1, .int (nI s)), (2, .int (nI n))]) hx hb dX7_ticksTo_22 rfl hl (by decide) rfl (fun ls hl => ?_)
        refine lv_aload_n hx hb dX7_ticksTo_23 rfl (lv_at hl 1 rfl) ?_
        refine lv_iload_n hx hb dX7_ticksTo_24 rfl (lv_at hl 2 rfl) ?_
        refine lv_iload_n hx hb dX7_ticksTo_25 rfl (lv_at hl 3 rfl) ?_
        have hPc := zP_sub (w := [(x, .inr (7, [.ref ms, .ref mp, .int (nI pz), .ref mt, .int (nI len), .ref md, .int (nI sp), .int q1, .int q2, .int q3, .int q4, .int q5, .int (nI fm)])), (ms, .inl (E.2.1, 265, .inl (fun zz => nI (M zz))))]) hP [0, 1] rfl
        refine z_rd (fun _ h => h) (va_runV (As := [.int (nI s), .int (nI n)]) (rest := []) hF (c_X7_loud l E x ms mp mt md pz len sp fm s n q1 q2 q3 q4 q5 M (by first | assumption | omega) (by first | assumption | omega) (by first | assumption | omega)) (cwV 2 hts gX7_ticksTo_X7_loud rfl rfl rfl (by decide +kernel) ⟨Nat.le_of_ble_eq_true rfl, Nat.le_of_ble_eq_true rfl⟩) (z_preRV (va_recv hG.1 hP (ci := 7) (q0 := 0) rfl rfl) hPc hG) rfl rfl hl.1 rfl (lv_room (Nat.le_of_ble_eq_true rfl)) dX7_ticksTo_26 ⟨Nat.zero_le _, Nat.zero_le _⟩) (fun r7 hr7 => ?_)
        subst hr7
        refine lv_istore (lv' := [(4, .int (nI (M (61 + 12 * s + n - 1)))), (3, .int (nI 1)), (0, .ref x), (1, .int (nI s)), (2, .int (nI n))]) hx hb dX7_ticksTo_29 hl (by decide) rfl (fun ls hl => ?_)
        refine lv_iconst (v := nI 0) hx hb dX7_ticksTo_31 (by decide) ?_
        refine lv_istore (lv' := [(5, .int (nI 0)), (4, .int (nI (M (61 + 12 * s + n - 1)))), (3, .int (nI 1)), (0, .ref x), (1, .int (nI s)), (2, .int (nI n))]) hx hb dX7_ticksTo_32 hl (by decide) rfl (fun ls hl => ?_)
        have L34_8 : ∀ (fuelZ : Nat) (tt : Nat) (av : Nat), 2001 - tt < fuelZ → (tt ≤ 2001) → (ttu (M 8) (M 4) (M 5) (M 6) n (mdm M s n) 2001 0 (M (61 + 12 * s + n - 1)) = ttu (M 8) (M 4) (M 5) (M 6) n (mdm M s n) (2001 - tt) tt av) → (av ≤ 1000000) → ∀ ls : Array Slot, lv_has ls 6 [(5, .int (nI tt)), (4, .int (nI av)), (3, .int (nI 1)), (0, .ref x), (1, .int (nI s)), (2, .int (nI n))] → W pZ l eZ ({ frames := 8, cells := 0, slots := 0, locals := 180 }) sZ mZ argsZ belowZ methZ cZ sZ.heap [] 0 0 QZ (F0 mZ 34 ls []) := by
          intro fuelZ
          induction fuelZ with
          | zero => intro tt av hm; exact absurd hm (Nat.not_lt_zero _)
          | succ fuelZ ih34 =>
            intro tt av hm j0 j1 j2 ls hl
            refine lv_iload hx hb dX7_ticksTo_34 (lv_at hl 0 rfl) ?_
            refine lv_sipush (v := nI 2000) hx hb dX7_ticksTo_36 (by decide) ?_
            refine z_icmp_gt (a := tt) (b := 2000) (tgt := 76) hx hb dX7_ticksTo_39 (by decide) (by omega) (by omega) (fun c9 => ?_) (fun c9 => ?_)
            · -- 39 t
              refine lv_bipush (v := (-4)) hx hb dX7_ticksTo_76 (by decide) ?_
              exact hret _ _ _ dX7_ticksTo_78 (Or.inr (⟨s, n, (-4), rfl, ⟨rfl, rfl, by omega, by omega, by omega, by rw [j1, show 2001 - tt = 0 by omega]; rfl⟩⟩))
            · -- 39 f
              refine lv_iload hx hb dX7_ticksTo_42 (lv_at hl 1 rfl) ?_
              refine z_if_eq (a := av) (tgt := 57) hx hb dX7_ticksTo_44 (by decide) (by omega) (fun c10 => ?_) (fun c10 => ?_)
              · -- 44 t
                refine lv_iload hx hb dX7_ticksTo_57 (lv_at hl 0 rfl) ?_
                exact hret _ _ _ dX7_ticksTo_59 (Or.inr (⟨s, n, (nI tt), by first | rfl | (congr 1; omega), ⟨rfl, rfl, by omega, by omega, by omega, by rw [j1]; exact ttu_e (by omega) (by omega)⟩⟩))
              · -- 44 f
                refine lv_iload hx hb dX7_ticksTo_47 (lv_at hl 1 rfl) ?_
                refine lv_aload_n hx hb dX7_ticksTo_49 rfl (lv_at hl 3 rfl) ?_
                refine lv_iconst (v := nI 4) hx hb dX7_ticksTo_50 (by decide) ?_
                have hPc := zP_sub (w := [(x, .inr (7, [.ref ms, .ref mp, .int (nI pz), .ref mt, .int (nI len), .ref md, .int (nI sp), .int q1, .int q2, .int q3, .int q4, .int q5, .int (nI fm)])), (ms, .inl (E.2.1, 265, .inl (fun zz => nI (M zz))))]) hP [0, 1] rfl
                refine z_rd (fun _ h => h) (va_runV (As := [.int (nI 4)]) (rest := [.int (nI av)]) hF (c_X7_setting l E x ms mp mt md pz len sp fm 4 q1 q2 q3 q4 q5 M (by first | assumption | omega)) (cwV 1 hts gX7_ticksTo_X7_setting rfl rfl rfl (by decide +kernel) ⟨Nat.le_of_ble_eq_true rfl, Nat.le_of_ble_eq_true rfl⟩) (z_preRV (va_recv hG.1 hP (ci := 7) (q0 := 0) rfl rfl) hPc hG) rfl rfl hl.1 rfl (lv_room (Nat.le_of_ble_eq_true rfl)) dX7_ticksTo_51 ⟨Nat.zero_le _, Nat.zero_le _⟩) (fun r11 hr11 => ?_)
                subst hr11
                refine z_icmp_ge (a := av) (b := M 8) (tgt := 60) hx hb dX7_ticksTo_54 (by decide) (by omega) (by omega) (fun c12 => ?_) (fun c12 => ?_)
                · -- 54 t
                  refine lv_aload_n hx hb dX7_ticksTo_60 rfl (lv_at hl 3 rfl) ?_
                  refine lv_iload hx hb dX7_ticksTo_61 (lv_at hl 1 rfl) ?_
                  refine lv_iload_n hx hb dX7_ticksTo_63 rfl (lv_at hl 5 rfl) ?_
                  refine lv_iload_n hx hb dX7_ticksTo_64 rfl (lv_at hl 2 rfl) ?_
                  have hPc := zP_sub (w := [(x, .inr (7, [.ref ms, .ref mp, .int (nI pz), .ref mt, .int (nI len), .ref md, .int (nI sp), .int q1, .int q2, .int q3, .int q4, .int q5, .int (nI fm)])), (ms, .inl (E.2.1, 265, .inl (fun zz => nI (M zz))))]) hP [0, 1] rfl
                  refine z_rd (fun _ h => h) (va_runV (As := [.int (nI av), .int (nI n), .int (nI 1)]) (rest := []) hF (c_X7_fades l E x ms mp mt md pz len sp fm av n 1 q1 q2 q3 q4 q5 M (by first | assumption | omega) (by first | assumption | omega) (by first | assumption | omega) (by first | assumption | omega) (by first | assumption | omega) (by first | assumption | omega) (by first | assumption | omega)) (cwV 3 hts gX7_ticksTo_X7_fades rfl rfl rfl (by decide +kernel) ⟨Nat.le_of_ble_eq_true rfl, Nat.le_of_ble_eq_true rfl⟩) (z_preRV (va_recv hG.1 hP (ci := 7) (q0 := 0) rfl rfl) hPc hG) rfl rfl hl.1 rfl (lv_room (Nat.le_of_ble_eq_true rfl)) dX7_ticksTo_65 ⟨Nat.zero_le _, Nat.zero_le _⟩) (fun r13 hr13 => ?_)
                  subst hr13
                  refine lv_istore (lv' := [(4, .int (nI (fade (M 4) (M 5) (M 6) n 1 av))), (5, .int (nI tt)), (3, .int (nI 1)), (0, .ref x), (1, .int (nI s)), (2, .int (nI n))]) hx hb dX7_ticksTo_68 hl (by decide) rfl (fun ls hl => ?_)
                  refine z_iinc (k := 1) (d := 1) (lv' := [(5, .int (nI (tt + 1))), (4, .int (nI (fade (M 4) (M 5) (M 6) n 1 av))), (3, .int (nI 1)), (0, .ref x), (1, .int (nI s)), (2, .int (nI n))]) hx hb dX7_ticksTo_70 (by decide) hl rfl (by decide) rfl (fun ls hl => ?_)
                  refine lv_goto (tgt := 34) hx hb dX7_ticksTo_73 (by decide) ?_
                  exact ih34 (tt + 1) (fade (M 4) (M 5) (M 6) n 1 av) (by omega) (by omega) ((ttu_s j1 (by omega) (by omega)).trans (by rw [hdm])) (Nat.le_trans fade_le j2) _ (lv_sub hl [0, 1, 2, 3, 4, 5] rfl)
                · -- 54 f
                  refine lv_iload hx hb dX7_ticksTo_57 (lv_at hl 0 rfl) ?_
                  exact hret _ _ _ dX7_ticksTo_59 (Or.inr (⟨s, n, (nI tt), by first | rfl | (congr 1; omega), ⟨rfl, rfl, by omega, by omega, by omega, by rw [j1]; exact ttu_e (by omega) (by omega)⟩⟩))
        exact L34_8 ((2001 - 0) + 1) 0 (M (61 + 12 * s + n - 1)) (Nat.lt_succ_self _) (by omega) (rfl) (hab) _ (lv_sub hl [0, 1, 2, 3, 4, 5] rfl)
      · -- 19 f
        have hdm : mdm M s n = 0 := if_neg c6
        refine lv_istore_n (lv' := [(3, .int (nI 0)), (0, .ref x), (1, .int (nI s)), (2, .int (nI n))]) hx hb dX7_ticksTo_22 rfl hl (by decide) rfl (fun ls hl => ?_)
        refine lv_aload_n hx hb dX7_ticksTo_23 rfl (lv_at hl 1 rfl) ?_
        refine lv_iload_n hx hb dX7_ticksTo_24 rfl (lv_at hl 2 rfl) ?_
        refine lv_iload_n hx hb dX7_ticksTo_25 rfl (lv_at hl 3 rfl) ?_
        have hPc := zP_sub (w := [(x, .inr (7, [.ref ms, .ref mp, .int (nI pz), .ref mt, .int (nI len), .ref md, .int (nI sp), .int q1, .int q2, .int q3, .int q4, .int q5, .int (nI fm)])), (ms, .inl (E.2.1, 265, .inl (fun zz => nI (M zz))))]) hP [0, 1] rfl
        refine z_rd (fun _ h => h) (va_runV (As := [.int (nI s), .int (nI n)]) (rest := []) hF (c_X7_loud l E x ms mp mt md pz len sp fm s n q1 q2 q3 q4 q5 M (by first | assumption | omega) (by first | assumption | omega) (by first | assumption | omega)) (cwV 2 hts gX7_ticksTo_X7_loud rfl rfl rfl (by decide +kernel) ⟨Nat.le_of_ble_eq_true rfl, Nat.le_of_ble_eq_true rfl⟩) (z_preRV (va_recv hG.1 hP (ci := 7) (q0 := 0) rfl rfl) hPc hG) rfl rfl hl.1 rfl (lv_room (Nat.le_of_ble_eq_true rfl)) dX7_ticksTo_26 ⟨Nat.zero_le _, Nat.zero_le _⟩) (fun r14 hr14 => ?_)
        subst hr14
        refine lv_istore (lv' := [(4, .int (nI (M (61 + 12 * s + n - 1)))), (3, .int (nI 0)), (0, .ref x), (1, .int (nI s)), (2, .int (nI n))]) hx hb dX7_ticksTo_29 hl (by decide) rfl (fun ls hl => ?_)
        refine lv_iconst (v := nI 0) hx hb dX7_ticksTo_31 (by decide) ?_
        refine lv_istore (lv' := [(5, .int (nI 0)), (4, .int (nI (M (61 + 12 * s + n - 1)))), (3, .int (nI 0)), (0, .ref x), (1, .int (nI s)), (2, .int (nI n))]) hx hb dX7_ticksTo_32 hl (by decide) rfl (fun ls hl => ?_)
        have L34_15 : ∀ (fuelZ : Nat) (tt : Nat) (av : Nat), 2001 - tt < fuelZ → (tt ≤ 2001) → (ttu (M 8) (M 4) (M 5) (M 6) n (mdm M s n) 2001 0 (M (61 + 12 * s + n - 1)) = ttu (M 8) (M 4) (M 5) (M 6) n (mdm M s n) (2001 - tt) tt av) → (av ≤ 1000000) → ∀ ls : Array Slot, lv_has ls 6 [(5, .int (nI tt)), (4, .int (nI av)), (3, .int (nI 0)), (0, .ref x), (1, .int (nI s)), (2, .int (nI n))] → W pZ l eZ ({ frames := 8, cells := 0, slots := 0, locals := 180 }) sZ mZ argsZ belowZ methZ cZ sZ.heap [] 0 0 QZ (F0 mZ 34 ls []) := by
          intro fuelZ
          induction fuelZ with
          | zero => intro tt av hm; exact absurd hm (Nat.not_lt_zero _)
          | succ fuelZ ih34 =>
            intro tt av hm j0 j1 j2 ls hl
            refine lv_iload hx hb dX7_ticksTo_34 (lv_at hl 0 rfl) ?_
            refine lv_sipush (v := nI 2000) hx hb dX7_ticksTo_36 (by decide) ?_
            refine z_icmp_gt (a := tt) (b := 2000) (tgt := 76) hx hb dX7_ticksTo_39 (by decide) (by omega) (by omega) (fun c16 => ?_) (fun c16 => ?_)
            · -- 39 t
              refine lv_bipush (v := (-4)) hx hb dX7_ticksTo_76 (by decide) ?_
              exact hret _ _ _ dX7_ticksTo_78 (Or.inr (⟨s, n, (-4), rfl, ⟨rfl, rfl, by omega, by omega, by omega, by rw [j1, show 2001 - tt = 0 by omega]; rfl⟩⟩))
            · -- 39 f
              refine lv_iload hx hb dX7_ticksTo_42 (lv_at hl 1 rfl) ?_
              refine z_if_eq (a := av) (tgt := 57) hx hb dX7_ticksTo_44 (by decide) (by omega) (fun c17 => ?_) (fun c17 => ?_)
              · -- 44 t
                refine lv_iload hx hb dX7_ticksTo_57 (lv_at hl 0 rfl) ?_
                exact hret _ _ _ dX7_ticksTo_59 (Or.inr (⟨s, n, (nI tt), by first | rfl | (congr 1; omega), ⟨rfl, rfl, by omega, by omega, by omega, by rw [j1]; exact ttu_e (by omega) (by omega)⟩⟩))
              · -- 44 f
                refine lv_iload hx hb dX7_ticksTo_47 (lv_at hl 1 rfl) ?_
                refine lv_aload_n hx hb dX7_ticksTo_49 rfl (lv_at hl 3 rfl) ?_
                refine lv_iconst (v := nI 4) hx hb dX7_ticksTo_50 (by decide) ?_
                have hPc := zP_sub (w := [(x, .inr (7, [.ref ms, .ref mp, .int (nI pz), .ref mt, .int (nI len), .ref md, .int (nI sp), .int q1, .int q2, .int q3, .int q4, .int q5, .int (nI fm)])), (ms, .inl (E.2.1, 265, .inl (fun zz => nI (M zz))))]) hP [0, 1] rfl
                refine z_rd (fun _ h => h) (va_runV (As := [.int (nI 4)]) (rest := [.int (nI av)]) hF (c_X7_setting l E x ms mp mt md pz len sp fm 4 q1 q2 q3 q4 q5 M (by first | assumption | omega)) (cwV 1 hts gX7_ticksTo_X7_setting rfl rfl rfl (by decide +kernel) ⟨Nat.le_of_ble_eq_true rfl, Nat.le_of_ble_eq_true rfl⟩) (z_preRV (va_recv hG.1 hP (ci := 7) (q0 := 0) rfl rfl) hPc hG) rfl rfl hl.1 rfl (lv_room (Nat.le_of_ble_eq_true rfl)) dX7_ticksTo_51 ⟨Nat.zero_le _, Nat.zero_le _⟩) (fun r18 hr18 => ?_)
                subst hr18
                refine z_icmp_ge (a := av) (b := M 8) (tgt := 60) hx hb dX7_ticksTo_54 (by decide) (by omega) (by omega) (fun c19 => ?_) (fun c19 => ?_)
                · -- 54 t
                  refine lv_aload_n hx hb dX7_ticksTo_60 rfl (lv_at hl 3 rfl) ?_
                  refine lv_iload hx hb dX7_ticksTo_61 (lv_at hl 1 rfl) ?_
                  refine lv_iload_n hx hb dX7_ticksTo_63 rfl (lv_at hl 5 rfl) ?_
                  refine lv_iload_n hx hb dX7_ticksTo_64 rfl (lv_at hl 2 rfl) ?_
                  have hPc := zP_sub (w := [(x, .inr (7, [.ref ms, .ref mp, .int (nI pz), .ref mt, .int (nI len), .ref md, .int (nI sp), .int q1, .int q2, .int q3, .int q4, .int q5, .int (nI fm)])), (ms, .inl (E.2.1, 265, .inl (fun zz => nI (M zz))))]) hP [0, 1] rfl
                  refine z_rd (fun _ h => h) (va_runV (As := [.int (nI av), .int (nI n), .int (nI 0)]) (rest := []) hF (c_X7_fades l E x ms mp mt md pz len sp fm av n 0 q1 q2 q3 q4 q5 M (by first | assumption | omega) (by first | assumption | omega) (by first | assumption | omega) (by first | assumption | omega) (by first | assumption | omega) (by first | assumption | omega) (by first | assumption | omega)) (cwV 3 hts gX7_ticksTo_X7_fades rfl rfl rfl (by decide +kernel) ⟨Nat.le_of_ble_eq_true rfl, Nat.le_of_ble_eq_true rfl⟩) (z_preRV (va_recv hG.1 hP (ci := 7) (q0 := 0) rfl rfl) hPc hG) rfl rfl hl.1 rfl (lv_room (Nat.le_of_ble_eq_true rfl)) dX7_ticksTo_65 ⟨Nat.zero_le _, Nat.zero_le _⟩) (fun r20 hr20 => ?_)
                  subst hr20
                  refine lv_istore (lv' := [(4, .int (nI (fade (M 4) (M 5) (M 6) n 0 av))), (5, .int (nI tt)), (3, .int (nI 0)), (0, .ref x), (1, .int (nI s)), (2, .int (nI n))]) hx hb dX7_ticksTo_68 hl (by decide) rfl (fun ls hl => ?_)
                  refine z_iinc (k := 1) (d := 1) (lv' := [(5, .int (nI (tt + 1))), (4, .int (nI (fade (M 4) (M 5) (M 6) n 0 av))), (3, .int (nI 0)), (0, .ref x), (1, .int (nI s)), (2, .int (nI n))]) hx hb dX7_ticksTo_70 (by decide) hl rfl (by decide) rfl (fun ls hl => ?_)
                  refine lv_goto (tgt := 34) hx hb dX7_ticksTo_73 (by decide) ?_
                  exact ih34 (tt + 1) (fade (M 4) (M 5) (M 6) n 0 av) (by omega) (by omega) ((ttu_s j1 (by omega) (by omega)).trans (by rw [hdm])) (Nat.le_trans fade_le j2) _ (lv_sub hl [0, 1, 2, 3, 4, 5] rfl)
                · -- 54 f
                  refine lv_iload hx hb dX7_ticksTo_57 (lv_at hl 0 rfl) ?_
                  exact hret _ _ _ dX7_ticksTo_59 (Or.inr (⟨s, n, (nI tt), by first | rfl | (congr 1; omega), ⟨rfl, rfl, by omega, by omega, by omega, by rw [j1]; exact ttu_e (by omega) (by omega)⟩⟩))
        exact L34_15 ((2001 - 0) + 1) 0 (M (61 + 12 * s + n - 1)) (Nat.lt_succ_self _) (by omega) (rfl) (hab) _ (lv_sub hl [0, 1, 2, 3, 4, 5] rfl)
    · -- 8 f
      refine lv_if_ne (tgt := 16) hx hb dX7_ticksTo_11 (by decide) (fun c => absurd c (by decide)) (fun _ => ?_)
      refine lv_iconst (v := (-1)) hx hb dX7_ticksTo_14 (by decide) ?_
      exact hret _ _ _ dX7_ticksTo_15 (Or.inl ⟨rfl, by intro q; first | exact absurd q (by assumption) | exact absurd q.1 (by assumption) | exact absurd q.2 (by assumption) | exact absurd q.2.1 (by assumption) | exact absurd q.2.2 (by assumption)⟩)
  · -- 1 f
    refine lv_if_eq (tgt := 14) hx hb dX7_ticksTo_4 (by decide) (fun _ => ?_) (fun c => absurd c (by decide))
    refine lv_iconst (v := (-1)) hx hb dX7_ticksTo_14 (by decide) ?_
    exact hret _ _ _ dX7_ticksTo_15 (Or.inl ⟨rfl, by intro q; first | exact absurd q (by assumption) | exact absurd q.1 (by assumption) | exact absurd q.2 (by assumption) | exact absurd q.2.1 (by assumption) | exact absurd q.2.2 (by assumption)⟩)
theorem iwX7_played_X7_c_X7_played : ∀ w ∈ wsX70, w ∈ wsX7_played := by decide +kernel
set_option maxHeartbeats 1000000 in
set_option maxRecDepth 100000 in
theorem c_X7_played (l : Launch) (E : zE) (x ms mp mt md pz len sp fm : Nat) (q1 q2 q3 q4 q5 a v : Int32) (M : Nat → Nat) (h52 : M 3 ≤ 52) : zR l yX7_played wsX7_played ({ frames := 1, cells := 0, slots := 0, locals := 22 }) E [.ref x, .int a, .int v] [(x, .inr (7, [.ref ms, .ref mp, .int (nI pz), .ref mt, .int (nI len), .ref md, .int (nI sp), .int q1, .int q2, .int q3, .int q4, .int q5, .int (nI fm)])), (ms, .inl (E.2.1, 265, .inl (fun zz => nI (M zz))))] (fun r => (r = (-1) ∧ (a < nI 0 ∨ ¬ (nI 0 ≤ v ∧ v ≤ nI 2))) ∨ (∃ (w : Nat), r = (-4) ∧ (nI (M 3) ≤ a ∧ v = nI w ∧ w ≤ 2)) ∨ (∃ (k : Nat) (w : Nat), r = nI (M (109 + 3 * k + w)) ∧ (a = nI k ∧ v = nI w ∧ k < M 3 ∧ w ≤ 2))) := by
  refine zR.start (own := RX7) rfl (by decide +kernel) rfl (Nat.le_of_ble_eq_true rfl) (fun _ _ => rfl) ?_
  intro pZ eZ sZ mZ argsZ belowZ methZ cZ QZ hF hret hP hG ls hl
  obtain ⟨hx, hb, hml, hown, hts⟩ := id hF
  have hl : lv_has ls 3 [(0, .ref x), (1, .int a), (2, .int v)] := hl
  refine lv_iload_n hx hb dX7_played_0 rfl (lv_at hl 1 rfl) ?_
  refine lv_if_lt (tgt := 13) hx hb dX7_played_1 (by decide) (fun c1 => ?_) (fun c1 => ?_)
  · -- 1 t
    refine lv_iconst (v := (-1)) hx hb dX7_played_13 (by decide) ?_
    exact hret _ _ _ dX7_played_14 (Or.inl ⟨rfl, by first | exact Or.inl (by assumption) | exact Or.inr (by assumption)⟩)
  · -- 1 f
    have ka := c1
    refine lv_iload_n hx hb dX7_played_4 rfl (lv_at hl 2 rfl) ?_
    refine lv_iconst (v := nI 0) hx hb dX7_played_5 (by decide) ?_
    refine lv_iconst (v := nI 2) hx hb dX7_played_6 (by decide) ?_
    refine z_rd (fun _ h => h) (va_runS (As := [.int v, .int (nI 0), .int (nI 2)]) (rest := []) hF (c_X7_in l E v (nI 0) (nI 2) ) (va_cwS 3 hts gX7_played_X7_in rfl rfl rfl (by decide +kernel) ⟨Nat.le_of_ble_eq_true rfl, Nat.le_of_ble_eq_true rfl⟩) (z_preR (fun k q h => by simp at h) hG) rfl rfl hl.1 rfl (lv_room (Nat.le_of_ble_eq_true rfl)) dX7_played_7 ⟨Nat.zero_le _, Nat.zero_le _⟩) (fun r2 hr2 => ?_)
    rcases hr2 with ⟨rfl, c3⟩ | ⟨rfl, c3⟩
    · -- 7 t
      obtain ⟨w, hw1, hw2, rfl⟩ := z_ge (by omega) (by omega) c3.1 c3.2
      refine lv_if_ne (tgt := 15) hx hb dX7_played_10 (by decide) (fun _ => ?_) (fun c => absurd c (by decide))
      refine lv_iload_n hx hb dX7_played_15 rfl (lv_at hl 1 rfl) ?_
      refine lv_aload_n hx hb dX7_played_16 rfl (lv_at hl 0 rfl) ?_
      refine va_get (D := E.1) (ci := 7) (v := .ref ms) (C := RX7) (T := TX7) (N := 13) hx hb hts iwX7_played_X7_c_X7_played hown hG.1 hP 0 rfl rfl 0 (by decide) (hts (.fieldLink RX7 7 "FrettedStringsModel" "st" "[I") (by decide +kernel)) (fun _ h9 => h9) rfl dX7_played_17 ?_
      refine lv_iconst (v := nI 3) hx hb dX7_played_20 (by decide) ?_
      refine z_iald (j := 3) (v := M 3) hx hb hG hP 1 rfl (by omega) (by decide) (rfl) dX7_played_21 ?_
      refine lv_icmp_ge (tgt := 41) hx hb dX7_played_22 (by decide) (fun c4 => ?_) (fun c4 => ?_)
      · -- 22 t
        refine lv_bipush (v := (-4)) hx hb dX7_played_41 (by decide) ?_
        exact hret _ _ _ dX7_played_43 (Or.inr (Or.inl ⟨w, rfl, ⟨by assumption, rfl, by omega⟩⟩))
      · -- 22 f
        obtain ⟨k, hk, rfl⟩ := z_lt0 (by omega) ka c4
        refine lv_aload_n hx hb dX7_played_25 rfl (lv_at hl 0 rfl) ?_
        refine va_get (D := E.1) (ci := 7) (v := .ref ms) (C := RX7) (T := TX7) (N := 13) hx hb hts iwX7_played_X7_c_X7_played hown hG.1 hP 0 rfl rfl 0 (by decide) (hts (.fieldLink RX7 7 "FrettedStringsModel" "st" "[I") (by decide +kernel)) (fun _ h9 => h9) rfl dX7_played_26 ?_
        refine lv_bipush (v := nI 109) hx hb dX7_played_29 (by decide) ?_
        refine lv_iconst (v := nI 3) hx hb dX7_played_31 (by decide) ?_
        refine lv_iload_n hx hb dX7_played_32 rfl (lv_at hl 1 rfl) ?_
        refine z_imul (a := 3) (b := k) hx hb dX7_played_33 ?_
        refine z_iadd (a := 109) (b := 3 * k) hx hb dX7_played_34 ?_
        refine lv_iload_n hx hb dX7_played_35 rfl (lv_at hl 2 rfl) ?_
        refine z_iadd (a := 109 + (3 * k)) (b := w) hx hb dX7_played_36 ?_
        refine z_iald (j := (109 + (3 * k)) + w) (v := M ((109 + (3 * k)) + w)) hx hb hG hP 1 rfl (by omega) (by decide) (rfl) dX7_played_37 ?_
        refine lv_goto (tgt := 43) hx hb dX7_played_38 (by decide) ?_
        exact hret _ _ _ dX7_played_43 (Or.inr (Or.inr (⟨k, w, by first | rfl | (congr 1; omega), ⟨rfl, rfl, by omega, by omega⟩⟩)))
    · -- 7 f
      refine lv_if_ne (tgt := 15) hx hb dX7_played_10 (by decide) (fun c => absurd c (by decide)) (fun _ => ?_)
      refine lv_iconst (v := (-1)) hx hb dX7_played_13 (by decide) ?_
      exact hret _ _ _ dX7_played_14 (Or.inl ⟨rfl, by first | exact Or.inl (by assumption) | exact Or.inr (by assumption)⟩)
theorem iwX7_type_X7_c_X7_type : ∀ w ∈ wsX70, w ∈ wsX7_type := by decide +kernel
set_option maxHeartbeats 1000000 in
set_option maxRecDepth 100000 in
theorem c_X7_type (l : Launch) (E : zE) (x ms mp mt md pz len sp fm : Nat) (q1 q2 q3 q4 q5 a : Int32) (Tx : Nat → Nat) (hlen : len ≤ 80) : zM l yX7_type wsX7_type ({ frames := 1, cells := 0, slots := 0, locals := 22 }) E [.ref x, .int a] [(x, .inr (7, [.ref ms, .ref mp, .int (nI pz), .ref mt, .int (nI len), .ref md, .int (nI sp), .int q1, .int q2, .int q3, .int q4, .int q5, .int (nI fm)])), (mt, .inl (E.2.1, 80, .inl (fun zz => nI (Tx zz))))] (fun r w' => (r = (-1) ∧ (¬ (nI 32 ≤ a ∧ a ≤ nI 126)) ∧ w' = [(x, .inr (7, [.ref ms, .ref mp, .int (nI pz), .ref mt, .int (nI len), .ref md, .int (nI sp), .int q1, .int q2, .int q3, .int q4, .int q5, .int (nI fm)])), (mt, .inl (E.2.1, 80, .inl (fun zz => nI (Tx zz))))]) ∨ (∃ (k : Nat), r = (-3) ∧ (a = nI k ∧ 32 ≤ k ∧ k ≤ 126 ∧ len = 80) ∧ w' = [(x, .inr (7, [.ref ms, .ref mp, .int (nI pz), .ref mt, .int (nI len), .ref md, .int (nI sp), .int q1, .int q2, .int q3, .int q4, .int q5, .int (nI fm)])), (mt, .inl (E.2.1, 80, .inl (fun zz => nI (Tx zz))))]) ∨ (∃ (k : Nat), r = nI (len + 1) ∧ (a = nI k ∧ 32 ≤ k ∧ k ≤ 126 ∧ len < 80) ∧ w' = [(x, .inr (7, [.ref ms, .ref mp, .int (nI pz), .ref mt, .int (nI (len + 1)), .ref md, .int (nI sp), .int q1, .int q2, .int q3, .int q4, .int q5, .int (nI fm)])), (mt, .inl (E.2.1, 80, .inl (fun zz => nI ((va_up Tx len k) zz))))])) := by
  refine zM.start (own := RX7) rfl (by decide +kernel) rfl (Nat.le_of_ble_eq_true rfl) (fun _ _ _ => rfl) ?_
  intro pZ eZ sZ mZ argsZ belowZ methZ cZ QZ AZ hF hret HZ locsZ hP hD hS hG ls hl
  obtain ⟨hx, hb, hml, hown, hts⟩ := id hF
  have hl : lv_has ls 2 [(0, .ref x), (1, .int a)] := hl
  refine lv_iload_n hx hb dX7_type_0 rfl (lv_at hl 1 rfl) ?_
  refine lv_bipush (v := nI 32) hx hb dX7_type_1 (by decide) ?_
  refine lv_bipush (v := nI 126) hx hb dX7_type_3 (by decide) ?_
  refine z_rd (fun _ h => h) (va_runS (As := [.int a, .int (nI 32), .int (nI 126)]) (rest := []) hF (c_X7_in l E a (nI 32) (nI 126) ) (va_cwS 3 hts gX7_type_X7_in rfl rfl rfl (by decide +kernel) ⟨Nat.le_of_ble_eq_true rfl, Nat.le_of_ble_eq_true rfl⟩) (z_preR (fun k q h => by simp at h) hG) rfl rfl hl.1 rfl (lv_room (Nat.le_of_ble_eq_true rfl)) dX7_type_5 ⟨Nat.zero_le _, Nat.zero_le _⟩) (fun r1 hr1 => ?_)
  rcases hr1 with ⟨rfl, c2⟩ | ⟨rfl, c2⟩
  · -- 5 t
    obtain ⟨k, hk1, hk2, rfl⟩ := z_ge (by omega) (by omega) c2.1 c2.2
    refine lv_if_ne (tgt := 13) hx hb dX7_type_8 (by decide) (fun _ => ?_) (fun c => absurd c (by decide))
    refine lv_aload_n hx hb dX7_type_13 rfl (lv_at hl 0 rfl) ?_
    refine va_get (D := E.1) (ci := 7) (v := .int (nI len)) (C := RX7) (T := TX7) (N := 13) hx hb hts iwX7_type_X7_c_X7_type hown hG.1 hP 0 rfl rfl 4 (by decide) (hts (.fieldLink RX7 178 "FrettedStringsModel" "length" "I") (by decide +kernel)) (fun _ h9 => h9) rfl dX7_type_14 ?_
    refine lv_bipush (v := nI 80) hx hb dX7_type_17 (by decide) ?_
    refine z_icmp_ne (a := len) (b := 80) (tgt := 25) hx hb dX7_type_19 (by decide) (by omega) (by omega) (fun c3 => ?_) (fun c3 => ?_)
    · -- 19 t
      refine lv_aload_n hx hb dX7_type_25 rfl (lv_at hl 0 rfl) ?_
      refine va_get (D := E.1) (ci := 7) (v := .ref mt) (C := RX7) (T := TX7) (N := 13) hx hb hts iwX7_type_X7_c_X7_type hown hG.1 hP 0 rfl rfl 3 (by decide) (hts (.fieldLink RX7 16 "FrettedStringsModel" "text" "[I") (by decide +kernel)) (fun _ h9 => h9) rfl dX7_type_26 ?_
      refine lv_aload_n hx hb dX7_type_29 rfl (lv_at hl 0 rfl) ?_
      refine va_get (D := E.1) (ci := 7) (v := .int (nI len)) (C := RX7) (T := TX7) (N := 13) hx hb hts iwX7_type_X7_c_X7_type hown hG.1 hP 0 rfl rfl 4 (by decide) (hts (.fieldLink RX7 178 "FrettedStringsModel" "length" "I") (by decide +kernel)) (fun _ h9 => h9) rfl dX7_type_30 ?_
      refine lv_iload_n hx hb dX7_type_33 rfl (lv_at hl 1 rfl) ?_
      refine z_iast (j := len) (v := k) (g := va_up Tx len k) hx hb hG hP hD hS 1 rfl (by omega) (by decide) (rfl) dX7_type_34 (fun HZ locsZ hP hD hS => ?_)
      have hP : va_P E.1 vwCl [(x, .inr (7, [.ref ms, .ref mp, .int (nI pz), .ref mt, .int (nI len), .ref md, .int (nI sp), .int q1, .int q2, .int q3, .int q4, .int q5, .int (nI fm)])), (mt, .inl (E.2.1, 80, .inl (fun zz => nI ((va_up Tx len k) zz))))] _ := hP
      have hD : va_D AZ [(x, .inr (7, [.ref ms, .ref mp, .int (nI pz), .ref mt, .int (nI len), .ref md, .int (nI sp), .int q1, .int q2, .int q3, .int q4, .int q5, .int (nI fm)])), (mt, .inl (E.2.1, 80, .inl (fun zz => nI ((va_up Tx len k) zz))))] := hD
      refine lv_aload_n hx hb dX7_type_35 rfl (lv_at hl 0 rfl) ?_
      refine lv_dup hx hb dX7_type_36 rfl ?_
      refine va_get (D := E.1) (ci := 7) (v := .int (nI len)) (C := RX7) (T := TX7) (N := 13) hx hb hts iwX7_type_X7_c_X7_type hown hG.1 hP 0 rfl rfl 4 (by decide) (hts (.fieldLink RX7 178 "FrettedStringsModel" "length" "I") (by decide +kernel)) (fun _ h9 => h9) rfl dX7_type_37 ?_
      refine lv_iconst (v := nI 1) hx hb dX7_type_40 (by decide) ?_
      refine z_iadd (a := len) (b := 1) hx hb dX7_type_41 ?_
      refine va_put (D := E.1) (ci := 7) (v := .int (nI (len + 1))) (ty := .int) (C := RX7) (T := TX7) (N := 13) hx hb hts iwX7_type_X7_c_X7_type tyX7 tyX7_ok nmX7 hown hG.1 hP hD hS 0 rfl rfl 4 (by decide) (hts (.fieldLink RX7 178 "FrettedStringsModel" "length" "I") (by decide +kernel)) (fun _ h9 => h9) rfl (by decide +kernel) rfl rfl (Nat.le_of_ble_eq_true rfl) dX7_type_42 (fun HZ locsZ hP hD hS => ?_)
      have hP : va_P E.1 vwCl [(x, .inr (7, [.ref ms, .ref mp, .int (nI pz), .ref mt, .int (nI (len + 1)), .ref md, .int (nI sp), .int q1, .int q2, .int q3, .int q4, .int q5, .int (nI fm)])), (mt, .inl (E.2.1, 80, .inl (fun zz => nI ((va_up Tx len k) zz))))] _ := hP
      have hD : va_D AZ [(x, .inr (7, [.ref ms, .ref mp, .int (nI pz), .ref mt, .int (nI (len + 1)), .ref md, .int (nI sp), .int q1, .int q2, .int q3, .int q4, .int q5, .int (nI fm)])), (mt, .inl (E.2.1, 80, .inl (fun zz => nI ((va_up Tx len k) zz))))] := hD
      refine lv_aload_n hx hb dX7_type_45 rfl (lv_at hl 0 rfl) ?_
      refine va_get (D := E.1) (ci := 7) (v := .int (nI (len + 1))) (C := RX7) (T := TX7) (N := 13) hx hb hts iwX7_type_X7_c_X7_type hown hG.1 hP 0 rfl rfl 4 (by decide) (hts (.fieldLink RX7 178 "FrettedStringsModel" "length" "I") (by decide +kernel)) (fun _ h9 => h9) rfl dX7_type_46 ?_
      exact hret _ _ _ _ _ _ hP hS dX7_type_49 rfl (Or.inr (Or.inr (⟨k, rfl, ⟨rfl, by omega, by omega, by omega⟩, rfl⟩)))
    · -- 19 f
      refine lv_bipush (v := (-3)) hx hb dX7_type_22 (by decide) ?_
      exact hret _ _ _ _ _ _ hP hS dX7_type_24 rfl (Or.inr (Or.inl ⟨k, rfl, ⟨rfl, by omega, by omega, by omega⟩, rfl⟩))
  · -- 5 f
    refine lv_if_ne (tgt := 13) hx hb dX7_type_8 (by decide) (fun c => absurd c (by decide)) (fun _ => ?_)
    refine lv_iconst (v := (-1)) hx hb dX7_type_11 (by decide) ?_
    exact hret _ _ _ _ _ _ hP hS dX7_type_12 rfl (Or.inl ⟨rfl, by assumption, rfl⟩)
theorem iwX7_clearText_X7_c_X7_clearText : ∀ w ∈ wsX70, w ∈ wsX7_clearText := by decide +kernel
set_option maxHeartbeats 1000000 in
set_option maxRecDepth 100000 in
theorem c_X7_clearText (l : Launch) (E : zE) (x ms mp mt md pz len sp fm : Nat) (q1 q2 q3 q4 q5 : Int32)  : zM l yX7_clearText wsX7_clearText ({ frames := 0, cells := 0, slots := 0, locals := 0 }) E [.ref x] [(x, .inr (7, [.ref ms, .ref mp, .int (nI pz), .ref mt, .int (nI len), .ref md, .int (nI sp), .int q1, .int q2, .int q3, .int q4, .int q5, .int (nI fm)]))] (fun r w' => r = nI len ∧ w' = [(x, .inr (7, [.ref ms, .ref mp, .int (nI pz), .ref mt, .int (nI 0), .ref md, .int (nI sp), .int q1, .int q2, .int q3, .int q4, .int q5, .int (nI fm)]))]) := by
  refine zM.start (own := RX7) rfl (by decide +kernel) rfl (Nat.le_of_ble_eq_true rfl) (fun _ _ _ => rfl) ?_
  intro pZ eZ sZ mZ argsZ belowZ methZ cZ QZ AZ hF hret HZ locsZ hP hD hS hG ls hl
  obtain ⟨hx, hb, hml, hown, hts⟩ := id hF
  have hl : lv_has ls 2 [(0, .ref x)] := hl
  refine lv_aload_n hx hb dX7_clearText_0 rfl (lv_at hl 0 rfl) ?_
  refine va_get (D := E.1) (ci := 7) (v := .int (nI len)) (C := RX7) (T := TX7) (N := 13) hx hb hts iwX7_clearText_X7_c_X7_clearText hown hG.1 hP 0 rfl rfl 4 (by decide) (hts (.fieldLink RX7 178 "FrettedStringsModel" "length" "I") (by decide +kernel)) (fun _ h9 => h9) rfl dX7_clearText_1 ?_
  refine lv_istore_n (lv' := [(1, .int (nI len)), (0, .ref x)]) hx hb dX7_clearText_4 rfl hl (by decide) rfl (fun ls hl => ?_)
  refine lv_aload_n hx hb dX7_clearText_5 rfl (lv_at hl 1 rfl) ?_
  refine lv_iconst (v := nI 0) hx hb dX7_clearText_6 (by decide) ?_
  refine va_put (D := E.1) (ci := 7) (v := .int (nI 0)) (ty := .int) (C := RX7) (T := TX7) (N := 13) hx hb hts iwX7_clearText_X7_c_X7_clearText tyX7 tyX7_ok nmX7 hown hG.1 hP hD hS 0 rfl rfl 4 (by decide) (hts (.fieldLink RX7 178 "FrettedStringsModel" "length" "I") (by decide +kernel)) (fun _ h9 => h9) rfl (by decide +kernel) rfl rfl (Nat.le_of_ble_eq_true rfl) dX7_clearText_7 (fun HZ locsZ hP hD hS => ?_)
  have hP : va_P E.1 vwCl [(x, .inr (7, [.ref ms, .ref mp, .int (nI pz), .ref mt, .int (nI 0), .ref md, .int (nI sp), .int q1, .int q2, .int q3, .int q4, .int q5, .int (nI fm)]))] _ := hP
  have hD : va_D AZ [(x, .inr (7, [.ref ms, .ref mp, .int (nI pz), .ref mt, .int (nI 0), .ref md, .int (nI sp), .int q1, .int q2, .int q3, .int q4, .int q5, .int (nI fm)]))] := hD
  refine lv_iload_n hx hb dX7_clearText_10 rfl (lv_at hl 0 rfl) ?_
  exact hret _ _ _ _ _ _ hP hS dX7_clearText_11 rfl ⟨rfl, rfl⟩
theorem iwX7_fault_X7_c_X7_fault : ∀ w ∈ wsX70, w ∈ wsX7_fault := by decide +kernel
set_option maxHeartbeats 1000000 in
set_option maxRecDepth 100000 in
theorem c_X7_fault (l : Launch) (E : zE) (x ms mp mt md pz len sp fm : Nat) (q1 q2 q3 q4 q5 a : Int32) (M Tx : Nat → Nat) (hCh : ∀ i, i < 80 → Tx i ≤ 126) (hlen : len ≤ 80) (hn : M 0 ≤ 12) (htb : M 1 ≤ 100000) : zM l yX7_fault wsX7_fault ({ frames := 4, cells := 0, slots := 0, locals := 86 }) E [.ref x, .int a] [(x, .inr (7, [.ref ms, .ref mp, .int (nI pz), .ref mt, .int (nI len), .ref md, .int (nI sp), .int q1, .int q2, .int q3, .int q4, .int q5, .int (nI fm)])), (ms, .inl (E.2.1, 265, .inl (fun zz => nI (M zz)))), (mt, .inl (E.2.1, 80, .inl (fun zz => nI (Tx zz))))] (fun r w' => (r = (-1) ∧ (¬ (nI 0 ≤ a ∧ a ≤ nI 1)) ∧ w' = [(x, .inr (7, [.ref ms, .ref mp, .int (nI pz), .ref mt, .int (nI len), .ref md, .int (nI sp), .int q1, .int q2, .int q3, .int q4, .int q5, .int (nI fm)])), (ms, .inl (E.2.1, 265, .inl (fun zz => nI (M zz)))), (mt, .inl (E.2.1, 80, .inl (fun zz => nI (Tx zz))))]) ∨ (∃ (sp9 : Nat) (q19 : Int32) (q29 : Int32) (q39 : Int32) (q49 : Int32) (q59 : Int32) (fm9 : Nat), r = (-4) ∧ (((nI 0 ≤ a ∧ a ≤ nI 1)) ∧ (ffN Tx len (M 0) 80 0 (M 1)).1 = 0) ∧ w' = [(x, .inr (7, [.ref ms, .ref mp, .int (nI pz), .ref mt, .int (nI len), .ref md, .int (nI sp9), .int q19, .int q29, .int q39, .int q49, .int q59, .int (nI fm9)])), (ms, .inl (E.2.1, 265, .inl (fun zz => nI (M zz)))), (mt, .inl (E.2.1, 80, .inl (fun zz => nI (Tx zz))))]) ∨ (∃ (sp9 : Nat) (q19 : Int32) (q29 : Int32) (q39 : Int32) (q49 : Int32) (q59 : Int32) (fm9 : Nat) (k : Nat) (r9 : Int32), r = r9 ∧ (a = nI k ∧ k ≤ 1 ∧ (ffN Tx len (M 0) 80 0 (M 1)).1 ≠ 0 ∧ r9 = if k = 0 then nI (ffN Tx len (M 0) 80 0 (M 1)).2 else nI (ffN Tx len (M 0) 80 0 (M 1)).1) ∧ w' = [(x, .inr (7, [.ref ms, .ref mp, .int (nI pz), .ref mt, .int (nI len), .ref md, .int (nI sp9), .int q19, .int q29, .int q39, .int q49, .int q59, .int (nI fm9)])), (ms, .inl (E.2.1, 265, .inl (fun zz => nI (M zz)))), (mt, .inl (E.2.1, 80, .inl (fun zz => nI (Tx zz))))])) := by
  refine zM.start (own := RX7) rfl (by decide +kernel) rfl (Nat.le_of_ble_eq_true rfl) (fun _ _ _ => rfl) ?_
  intro pZ eZ sZ mZ argsZ belowZ methZ cZ QZ AZ hF hret HZ locsZ hP hD hS hG ls hl
  obtain ⟨hx, hb, hml, hown, hts⟩ := id hF
  have hl : lv_has ls 3 [(0, .ref x), (1, .int a)] := hl
  refine lv_iload_n hx hb dX7_fault_0 rfl (lv_at hl 1 rfl) ?_
  refine lv_iconst (v := nI 0) hx hb dX7_fault_1 (by decide) ?_
  refine lv_iconst (v := nI 1) hx hb dX7_fault_2 (by decide) ?_
  refine z_rd (fun _ h => h) (va_runS (As := [.int a, .int (nI 0), .int (nI 1)]) (rest := []) hF (c_X7_in l E a (nI 0) (nI 1) ) (va_cwS 3 hts gX7_fault_X7_in rfl rfl rfl (by decide +kernel) ⟨Nat.le_of_ble_eq_true rfl, Nat.le_of_ble_eq_true rfl⟩) (z_preR (fun k q h => by simp at h) hG) rfl rfl hl.1 rfl (lv_room (Nat.le_of_ble_eq_true rfl)) dX7_fault_3 ⟨Nat.zero_le _, Nat.zero_le _⟩) (fun r1 hr1 => ?_)
  rcases hr1 with ⟨rfl, c2⟩ | ⟨rfl, c2⟩
  · -- 3 t
    have ka := c2
    refine lv_if_ne (tgt := 11) hx hb dX7_fault_6 (by decide) (fun _ => ?_) (fun c => absurd c (by decide))
    refine lv_aload_n hx hb dX7_fault_11 rfl (lv_at hl 0 rfl) ?_
    have hPc := zP_sub (w := [(x, .inr (7, [.ref ms, .ref mp, .int (nI pz), .ref mt, .int (nI len), .ref md, .int (nI sp), .int q1, .int q2, .int q3, .int q4, .int q5, .int (nI fm)])), (ms, .inl (E.2.1, 265, .inl (fun zz => nI (M zz)))), (mt, .inl (E.2.1, 80, .inl (fun zz => nI (Tx zz))))]) hP [0, 1, 2] rfl
    have hDc := zD_sub (w := [(x, .inr (7, [.ref ms, .ref mp, .int (nI pz), .ref mt, .int (nI len), .ref md, .int (nI sp), .int q1, .int q2, .int q3, .int q4, .int q5, .int (nI fm)])), (ms, .inl (E.2.1, 265, .inl (fun zz => nI (M zz)))), (mt, .inl (E.2.1, 80, .inl (fun zz => nI (Tx zz))))]) hD [0, 1, 2] (by decide) rfl
    refine z_md [0, 1, 2] (va_runV (As := []) (rest := []) hF (c_X7_reasonOfText l E x ms mp mt md pz len sp fm q1 q2 q3 q4 q5 M Tx (by first | assumption | omega) (by first | assumption | omega) (by first | assumption | omega) (by first | assumption | omega)) (cwV 0 hts gX7_fault_X7_reasonOfText rfl rfl rfl (by decide +kernel) ⟨Nat.le_of_ble_eq_true rfl, Nat.le_of_ble_eq_true rfl⟩) (z_preMV (va_recv hG.1 hP (ci := 7) (q0 := 0) rfl rfl) hPc hDc hG) rfl rfl hl.1 rfl (lv_room (Nat.le_of_ble_eq_true rfl)) dX7_fault_12 ⟨Nat.zero_le _, Nat.zero_le _⟩) hP hD hS rfl (fun r3 w' HZ locsZ hr3 hP hD hS => ?_)
    rcases hr3 with ⟨sp9_5, q19_6, q29_7, q39_8, q49_9, q59_10, fm9_11, rfl, c4, rfl⟩ | ⟨sp9_13, q19_14, q29_15, q39_16, q49_17, q59_18, fm9_19, r9_20, rfl, c12, rfl⟩
    · -- 12 case 0
      have hP : va_P E.1 vwCl [(x, .inr (7, [.ref ms, .ref mp, .int (nI pz), .ref mt, .int (nI len), .ref md, .int (nI sp9_5), .int q19_6, .int q29_7, .int q39_8, .int q49_9, .int q59_10, .int (nI fm9_11)])), (ms, .inl (E.2.1, 265, .inl (fun zz => nI (M zz)))), (mt, .inl (E.2.1, 80, .inl (fun zz => nI (Tx zz))))] _ := hP
      have hD : va_D AZ [(x, .inr (7, [.ref ms, .ref mp, .int (nI pz), .ref mt, .int (nI len), .ref md, .int (nI sp9_5), .int q19_6, .int q29_7, .int q39_8, .int q49_9, .int q59_10, .int (nI fm9_11)])), (ms, .inl (E.2.1, 265, .inl (fun zz => nI (M zz)))), (mt, .inl (E.2.1, 80, .inl (fun zz => nI (Tx zz))))] := hD
      have hf0 := c4
      refine lv_istore_n (lv' := [(2, .int (nI 0)), (0, .ref x), (1, .int a)]) hx hb dX7_fault_15 rfl hl (by decide) rfl (fun ls hl => ?_)
      refine lv_iload_n hx hb dX7_fault_16 rfl (lv_at hl 0 rfl) ?_
      refine lv_if_ne (tgt := 25) hx hb dX7_fault_17 (by decide) (fun c => absurd c (by decide)) (fun _ => ?_)
      refine lv_bipush (v := (-4)) hx hb dX7_fault_20 (by decide) ?_
      refine lv_goto (tgt := 37) hx hb dX7_fault_22 (by decide) ?_
      exact hret _ _ _ _ _ _ hP hS dX7_fault_37 rfl (Or.inr (Or.inl ⟨sp9_5, q19_6, q29_7, q39_8, q49_9, q59_10, fm9_11, rfl, ⟨by assumption, by assumption⟩, rfl⟩))
    · -- 12 case 1
      have hP : va_P E.1 vwCl [(x, .inr (7, [.ref ms, .ref mp, .int (nI pz), .ref mt, .int (nI len), .ref md, .int (nI sp9_13), .int q19_14, .int q29_15, .int q39_16, .int q49_17, .int q59_18, .int (nI fm9_19)])), (ms, .inl (E.2.1, 265, .inl (fun zz => nI (M zz)))), (mt, .inl (E.2.1, 80, .inl (fun zz => nI (Tx zz))))] _ := hP
      have hD : va_D AZ [(x, .inr (7, [.ref ms, .ref mp, .int (nI pz), .ref mt, .int (nI len), .ref md, .int (nI sp9_13), .int q19_14, .int q29_15, .int q39_16, .int q49_17, .int q59_18, .int (nI fm9_19)])), (ms, .inl (E.2.1, 265, .inl (fun zz => nI (M zz)))), (mt, .inl (E.2.1, 80, .inl (fun zz => nI (Tx zz))))] := hD
      obtain ⟨hf1, hf2, hf3, hf4⟩ := c12
      obtain ⟨k, hk1, hk2, rfl⟩ := z_ge (by omega) (by omega) ka.1 ka.2
      refine lv_istore_n (lv' := [(2, .int (nI r9_20)), (0, .ref x), (1, .int (nI k))]) hx hb dX7_fault_15 rfl hl (by decide) rfl (fun ls hl => ?_)
      refine lv_iload_n hx hb dX7_fault_16 rfl (lv_at hl 0 rfl) ?_
      refine z_if_ne (a := r9_20) (tgt := 25) hx hb dX7_fault_17 (by decide) (by omega) (fun c21 => ?_) (fun c21 => ?_)
      · -- 17 t
        refine lv_iload_n hx hb dX7_fault_25 rfl (lv_at hl 2 rfl) ?_
        refine z_if_ne (a := k) (tgt := 36) hx hb dX7_fault_26 (by decide) (by omega) (fun c22 => ?_) (fun c22 => ?_)
        · -- 26 t
          refine lv_iload_n hx hb dX7_fault_36 rfl (lv_at hl 0 rfl) ?_
          exact hret _ _ _ _ _ _ hP hS dX7_fault_37 rfl (Or.inr (Or.inr (⟨sp9_13, q19_14, q29_15, q39_16, q49_17, q59_18, fm9_19, k, (nI r9_20), by first | rfl | (congr 1; omega), ⟨rfl, by omega, by omega, by first | (rw [if_pos (by omega)]; congr 1) | (rw [if_neg (by omega)]; congr 1)⟩, rfl⟩)))
        · -- 26 f
          refine lv_aload_n hx hb dX7_fault_29 rfl (lv_at hl 1 rfl) ?_
          refine va_get (D := E.1) (ci := 7) (v := .int (nI fm9_19)) (C := RX7) (T := TX7) (N := 13) hx hb hts iwX7_fault_X7_c_X7_fault hown hG.1 hP 0 rfl rfl 12 (by decide) (hts (.fieldLink RX7 206 "FrettedStringsModel" "from" "I") (by decide +kernel)) (fun _ h9 => h9) rfl dX7_fault_30 ?_
          refine lv_goto (tgt := 37) hx hb dX7_fault_33 (by decide) ?_
          exact hret _ _ _ _ _ _ hP hS dX7_fault_37 rfl (Or.inr (Or.inr (⟨sp9_13, q19_14, q29_15, q39_16, q49_17, q59_18, fm9_19, k, (nI fm9_19), by first | rfl | (congr 1; omega), ⟨rfl, by omega, by omega, by first | (rw [if_pos (by omega)]; congr 1) | (rw [if_neg (by omega)]; congr 1)⟩, rfl⟩)))
      · -- 17 f
        omega
  · -- 3 f
    refine lv_if_ne (tgt := 11) hx hb dX7_fault_6 (by decide) (fun c => absurd c (by decide)) (fun _ => ?_)
    refine lv_iconst (v := (-1)) hx hb dX7_fault_9 (by decide) ?_
    exact hret _ _ _ _ _ _ hP hS dX7_fault_10 rfl (Or.inl ⟨rfl, by assumption, rfl⟩)
