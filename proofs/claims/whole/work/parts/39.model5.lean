set_option maxHeartbeats 1000000 in
set_option maxRecDepth 100000 in
theorem c_X7_beats (l : Launch) (E : zE) (x ms mp mt md pz len sp fm a n b m : Nat) (q1 q2 q3 q4 q5 : Int32) (M : Nat → Nat) (hn : M 0 ≤ 12) (hPb : ∀ i, i < 12 → mP M i ≤ 2400) (hHb : ∀ i, i < 12 → mH M i ≤ 2000) (hprn : ∀ i, i < 4 → mPr M i ≤ M 0) (ha : a < 4) (hb2 : b < 4) (hn1 : 1 ≤ n) (hn2 : n ≤ 12) (hm1 : 1 ≤ m) (hm2 : m ≤ 12) (hte : ∀ i, i < 4 → mT M i ≤ 100000000) (ham : ∀ i, i < 48 → mAm M i ≤ 1000000) (hse4 : M 8 ≤ 100000) : zR l yX7_beats wsX7_beats ({ frames := 7, cells := 0, slots := 0, locals := 157 }) E [.ref x, .int (nI a), .int (nI n), .int (nI b), .int (nI m)] [(x, .inr (7, [.ref ms, .ref mp, .int (nI pz), .ref mt, .int (nI len), .ref md, .int (nI sp), .int q1, .int q2, .int q3, .int q4, .int q5, .int (nI fm)])), (ms, .inl (E.2.1, 265, .inl (fun zz => nI (M zz))))] (fun r => (r = (-4) ∧ (beatV (mT M) (mSt M) (mAm M) (M 8) a n b m = 0)) ∨ (r = nI (beatV (mT M) (mSt M) (mAm M) (M 8) a n b m) ∧ (0 < beatV (mT M) (mSt M) (mAm M) (M 8) a n b m ∧ beatV (mT M) (mSt M) (mAm M) (M 8) a n b m ≤ 1200000000))) := by
  refine zR.start (own := RX7) rfl (by decide +kernel) rfl (Nat.le_of_ble_eq_true rfl) (fun _ _ => rfl) ?_
  intro pZ eZ sZ mZ argsZ belowZ methZ cZ QZ hF hret hP hG ls hl
  obtain ⟨hx, hb, hml, hown, hts⟩ := id hF
  have hl : lv_has ls 7 [(0, .ref x), (1, .int (nI a)), (2, .int (nI n)), (3, .int (nI b)), (4, .int (nI m))] := hl
  have hpa : pitch (mT M) (mSt M) a n ≤ 1200000000 := pitch_b hn2 (hte a ha)
  have hpb : pitch (mT M) (mSt M) b m ≤ 1200000000 := pitch_b hm2 (hte b hb2)
  refine lv_aload_n hx hb dX7_beats_0 rfl (lv_at hl 0 rfl) ?_
  refine lv_iload_n hx hb dX7_beats_1 rfl (lv_at hl 1 rfl) ?_
  refine lv_iload_n hx hb dX7_beats_2 rfl (lv_at hl 2 rfl) ?_
  have hPc := zP_sub (w := [(x, .inr (7, [.ref ms, .ref mp, .int (nI pz), .ref mt, .int (nI len), .ref md, .int (nI sp), .int q1, .int q2, .int q3, .int q4, .int q5, .int (nI fm)])), (ms, .inl (E.2.1, 265, .inl (fun zz => nI (M zz))))]) hP [0, 1] rfl
  refine z_rd (fun _ h => h) (va_runV (As := [.int (nI a), .int (nI n)]) (rest := []) hF (c_X7_pitch l E x ms mp mt md pz len sp fm a n q1 q2 q3 q4 q5 M (by first | assumption | omega) (by first | assumption | omega) (by first | assumption | omega) (by first | assumption | omega) (by first | assumption | omega) (by first | assumption | omega) (by first | assumption | omega) (by first | assumption | omega)) (cwV 2 hts gX7_beats_X7_pitch rfl rfl rfl (by decide +kernel) ⟨Nat.le_of_ble_eq_true rfl, Nat.le_of_ble_eq_true rfl⟩) (z_preRV (va_recv hG.1 hP (ci := 7) (q0 := 0) rfl rfl) hPc hG) rfl rfl hl.1 rfl (lv_room (Nat.le_of_ble_eq_true rfl)) dX7_beats_3 ⟨Nat.zero_le _, Nat.zero_le _⟩) (fun r1 hr1 => ?_)
  subst hr1
  refine lv_aload_n hx hb dX7_beats_6 rfl (lv_at hl 0 rfl) ?_
  refine lv_iload_n hx hb dX7_beats_7 rfl (lv_at hl 3 rfl) ?_
  refine lv_iload hx hb dX7_beats_8 (lv_at hl 4 rfl) ?_
  have hPc := zP_sub (w := [(x, .inr (7, [.ref ms, .ref mp, .int (nI pz), .ref mt, .int (nI len), .ref md, .int (nI sp), .int q1, .int q2, .int q3, .int q4, .int q5, .int (nI fm)])), (ms, .inl (E.2.1, 265, .inl (fun zz => nI (M zz))))]) hP [0, 1] rfl
  refine z_rd (fun _ h => h) (va_runV (As := [.int (nI b), .int (nI m)]) (rest := [.int (nI (pitch (mT M) (mSt M) a n))]) hF (c_X7_pitch l E x ms mp mt md pz len sp fm b m q1 q2 q3 q4 q5 M (by first | assumption | omega) (by first | assumption | omega) (by first | assumption | omega) (by first | assumption | omega) (by first | assumption | omega) (by first | assumption | omega) (by first | assumption | omega) (by first | assumption | omega)) (cwV 2 hts gX7_beats_X7_pitch rfl rfl rfl (by decide +kernel) ⟨Nat.le_of_ble_eq_true rfl, Nat.le_of_ble_eq_true rfl⟩) (z_preRV (va_recv hG.1 hP (ci := 7) (q0 := 0) rfl rfl) hPc hG) rfl rfl hl.1 rfl (lv_room (Nat.le_of_ble_eq_true rfl)) dX7_beats_10 ⟨Nat.zero_le _, Nat.zero_le _⟩) (fun r2 hr2 => ?_)
  subst hr2
  refine lv_isub hx hb dX7_beats_13 ?_
  refine lv_topi (fun x3 ex3 => ?_)
  refine lv_istore (lv' := [(5, .int x3), (0, .ref x), (1, .int (nI a)), (2, .int (nI n)), (3, .int (nI b)), (4, .int (nI m))]) hx hb dX7_beats_14 hl (by decide) rfl (fun ls hl => ?_)
  refine lv_aload_n hx hb dX7_beats_16 rfl (lv_at hl 1 rfl) ?_
  refine lv_iload_n hx hb dX7_beats_17 rfl (lv_at hl 2 rfl) ?_
  refine lv_iload_n hx hb dX7_beats_18 rfl (lv_at hl 3 rfl) ?_
  have hPc := zP_sub (w := [(x, .inr (7, [.ref ms, .ref mp, .int (nI pz), .ref mt, .int (nI len), .ref md, .int (nI sp), .int q1, .int q2, .int q3, .int q4, .int q5, .int (nI fm)])), (ms, .inl (E.2.1, 265, .inl (fun zz => nI (M zz))))]) hP [0, 1] rfl
  refine z_rd (fun _ h => h) (va_runV (As := [.int (nI a), .int (nI n)]) (rest := []) hF (c_X7_isHeard l E x ms mp mt md pz len sp fm a n q1 q2 q3 q4 q5 M (by first | assumption | omega) (by first | assumption | omega) (by first | assumption | omega) (by first | assumption | omega) (by first | assumption | omega)) (cwV 2 hts gX7_beats_X7_isHeard rfl rfl rfl (by decide +kernel) ⟨Nat.le_of_ble_eq_true rfl, Nat.le_of_ble_eq_true rfl⟩) (z_preRV (va_recv hG.1 hP (ci := 7) (q0 := 0) rfl rfl) hPc hG) rfl rfl hl.1 rfl (lv_room (Nat.le_of_ble_eq_true rfl)) dX7_beats_19 ⟨Nat.zero_le _, Nat.zero_le _⟩) (fun r4 hr4 => ?_)
  rcases hr4 with ⟨rfl, c5⟩ | ⟨rfl, c5⟩
  · -- 19 t
    refine lv_if_eq (tgt := 44) hx hb dX7_beats_22 (by decide) (fun c => absurd c (by decide)) (fun _ => ?_)
    refine lv_aload_n hx hb dX7_beats_25 rfl (lv_at hl 1 rfl) ?_
    refine lv_iload_n hx hb dX7_beats_26 rfl (lv_at hl 4 rfl) ?_
    refine lv_iload hx hb dX7_beats_27 (lv_at hl 5 rfl) ?_
    have hPc := zP_sub (w := [(x, .inr (7, [.ref ms, .ref mp, .int (nI pz), .ref mt, .int (nI len), .ref md, .int (nI sp), .int q1, .int q2, .int q3, .int q4, .int q5, .int (nI fm)])), (ms, .inl (E.2.1, 265, .inl (fun zz => nI (M zz))))]) hP [0, 1] rfl
    refine z_rd (fun _ h => h) (va_runV (As := [.int (nI b), .int (nI m)]) (rest := []) hF (c_X7_isHeard l E x ms mp mt md pz len sp fm b m q1 q2 q3 q4 q5 M (by first | assumption | omega) (by first | assumption | omega) (by first | assumption | omega) (by first | assumption | omega) (by first | assumption | omega)) (cwV 2 hts gX7_beats_X7_isHeard rfl rfl rfl (by decide +kernel) ⟨Nat.le_of_ble_eq_true rfl, Nat.le_of_ble_eq_true rfl⟩) (z_preRV (va_recv hG.1 hP (ci := 7) (q0 := 0) rfl rfl) hPc hG) rfl rfl hl.1 rfl (lv_room (Nat.le_of_ble_eq_true rfl)) dX7_beats_29 ⟨Nat.zero_le _, Nat.zero_le _⟩) (fun r6 hr6 => ?_)
    rcases hr6 with ⟨rfl, c7⟩ | ⟨rfl, c7⟩
    · -- 29 t
      refine lv_if_eq (tgt := 44) hx hb dX7_beats_32 (by decide) (fun c => absurd c (by decide)) (fun _ => ?_)
      refine lv_iload hx hb dX7_beats_35 (lv_at hl 0 rfl) ?_
      refine lv_if_eq (tgt := 44) hx hb dX7_beats_37 (by decide) (fun c8 => ?_) (fun c8 => ?_)
      · -- 37 t
        refine lv_iconst (v := nI 0) hx hb dX7_beats_44 (by decide) ?_
        refine lv_istore (lv' := [(6, .int (nI 0)), (5, .int x3), (0, .ref x), (1, .int (nI a)), (2, .int (nI n)), (3, .int (nI b)), (4, .int (nI m))]) hx hb dX7_beats_45 hl (by decide) rfl (fun ls hl => ?_)
        refine lv_iload hx hb dX7_beats_47 (lv_at hl 0 rfl) ?_
        refine lv_if_ne (tgt := 57) hx hb dX7_beats_49 (by decide) (fun c => absurd c (by decide)) (fun _ => ?_)
        refine lv_bipush (v := (-4)) hx hb dX7_beats_52 (by decide) ?_
        refine lv_goto (tgt := 70) hx hb dX7_beats_54 (by decide) ?_
        exact hret _ _ _ dX7_beats_70 (Or.inl ⟨rfl, (by first | exact bt_n hn1 hm1 (fun q => absurd q.1 (by assumption)) | exact bt_n hn1 hm1 (fun q => absurd q.2 (by assumption)) | (rw [bt_y hn1 hm1 (by assumption) (by assumption)]; exact bt_z hpa hpb (by assumption) (by assumption)))⟩)
      · -- 37 f
        refine lv_iconst (v := nI 1) hx hb dX7_beats_40 (by decide) ?_
        refine lv_goto (tgt := 45) hx hb dX7_beats_41 (by decide) ?_
        refine lv_istore (lv' := [(6, .int (nI 1)), (5, .int x3), (0, .ref x), (1, .int (nI a)), (2, .int (nI n)), (3, .int (nI b)), (4, .int (nI m))]) hx hb dX7_beats_45 hl (by decide) rfl (fun ls hl => ?_)
        refine lv_iload hx hb dX7_beats_47 (lv_at hl 0 rfl) ?_
        refine lv_if_ne (tgt := 57) hx hb dX7_beats_49 (by decide) (fun _ => ?_) (fun c => absurd c (by decide))
        refine lv_iload hx hb dX7_beats_57 (lv_at hl 1 rfl) ?_
        refine lv_if_ge (tgt := 68) hx hb dX7_beats_59 (by decide) (fun c9 => ?_) (fun c9 => ?_)
        · -- 59 t
          refine lv_iload hx hb dX7_beats_68 (lv_at hl 1 rfl) ?_
          exact hret _ _ _ dX7_beats_70 (Or.inr (⟨by rw [bt_y hn1 hm1 (by assumption) (by assumption)]; first | exact bt_pos hpa hpb (by assumption) (by assumption) | exact bt_neg hpa hpb (by assumption) (by assumption), ⟨by rw [bt_y hn1 hm1 (by assumption) (by assumption)]; exact bt_p hpa hpb (by assumption) (by assumption), beatV_b hn2 hm2 (hte a ha) (hte b hb2)⟩⟩))
        · -- 59 f
          refine lv_iload hx hb dX7_beats_62 (lv_at hl 1 rfl) ?_
          refine lv_ineg hx hb dX7_beats_64 ?_
          refine lv_goto (tgt := 70) hx hb dX7_beats_65 (by decide) ?_
          exact hret _ _ _ dX7_beats_70 (Or.inr (⟨by rw [bt_y hn1 hm1 (by assumption) (by assumption)]; first | exact bt_pos hpa hpb (by assumption) (by assumption) | exact bt_neg hpa hpb (by assumption) (by assumption), ⟨by rw [bt_y hn1 hm1 (by assumption) (by assumption)]; exact bt_p hpa hpb (by assumption) (by assumption), beatV_b hn2 hm2 (hte a ha) (hte b hb2)⟩⟩))
    · -- 29 f
      refine lv_if_eq (tgt := 44) hx hb dX7_beats_32 (by decide) (fun _ => ?_) (fun c => absurd c (by decide))
      refine lv_iconst (v := nI 0) hx hb dX7_beats_44 (by decide) ?_
      refine lv_istore (lv' := [(6, .int (nI 0)), (5, .int x3), (0, .ref x), (1, .int (nI a)), (2, .int (nI n)), (3, .int (nI b)), (4, .int (nI m))]) hx hb dX7_beats_45 hl (by decide) rfl (fun ls hl => ?_)
      refine lv_iload hx hb dX7_beats_47 (lv_at hl 0 rfl) ?_
      refine lv_if_ne (tgt := 57) hx hb dX7_beats_49 (by decide) (fun c => absurd c (by decide)) (fun _ => ?_)
      refine lv_bipush (v := (-4)) hx hb dX7_beats_52 (by decide) ?_
      refine lv_goto (tgt := 70) hx hb dX7_beats_54 (by decide) ?_
      exact hret _ _ _ dX7_beats_70 (Or.inl ⟨rfl, (by first | exact bt_n hn1 hm1 (fun q => absurd q.1 (by assumption)) | exact bt_n hn1 hm1 (fun q => absurd q.2 (by assumption)) | (rw [bt_y hn1 hm1 (by assumption) (by assumption)]; exact bt_z hpa hpb (by assumption) (by assumption)))⟩)
  · -- 19 f
    refine lv_if_eq (tgt := 44) hx hb dX7_beats_22 (by decide) (fun _ => ?_) (fun c => absurd c (by decide))
    refine lv_iconst (v := nI 0) hx hb dX7_beats_44 (by decide) ?_
    refine lv_istore (lv' := [(6, .int (nI 0)), (5, .int x3), (0, .ref x), (1, .int (nI a)), (2, .int (nI n)), (3, .int (nI b)), (4, .int (nI m))]) hx hb dX7_beats_45 hl (by decide) rfl (fun ls hl => ?_)
    refine lv_iload hx hb dX7_beats_47 (lv_at hl 0 rfl) ?_
    refine lv_if_ne (tgt := 57) hx hb dX7_beats_49 (by decide) (fun c => absurd c (by decide)) (fun _ => ?_)
    refine lv_bipush (v := (-4)) hx hb dX7_beats_52 (by decide) ?_
    refine lv_goto (tgt := 70) hx hb dX7_beats_54 (by decide) ?_
    exact hret _ _ _ dX7_beats_70 (Or.inl ⟨rfl, (by first | exact bt_n hn1 hm1 (fun q => absurd q.1 (by assumption)) | exact bt_n hn1 hm1 (fun q => absurd q.2 (by assumption)) | (rw [bt_y hn1 hm1 (by assumption) (by assumption)]; exact bt_z hpa hpb (by assumption) (by assumption)))⟩)
set_option maxHeartbeats 1000000 in
set_option maxRecDepth 100000 in
theorem c_X7_slowest (l : Launch) (E : zE) (x ms mp mt md pz len sp fm : Nat) (q1 q2 q3 q4 q5 a b w : Int32) (M : Nat → Nat) (hn : M 0 ≤ 12) (hPb : ∀ i, i < 12 → mP M i ≤ 2400) (hHb : ∀ i, i < 12 → mH M i ≤ 2000) (hprn : ∀ i, i < 4 → mPr M i ≤ M 0) (hte : ∀ i, i < 4 → mT M i ≤ 100000000) (ham : ∀ i, i < 48 → mAm M i ≤ 1000000) (hse4 : M 8 ≤ 100000) : zR l yX7_slowest wsX7_slowest ({ frames := 8, cells := 0, slots := 0, locals := 183 }) E [.ref x, .int a, .int b, .int w] [(x, .inr (7, [.ref ms, .ref mp, .int (nI pz), .ref mt, .int (nI len), .ref md, .int (nI sp), .int q1, .int q2, .int q3, .int q4, .int q5, .int (nI fm)])), (ms, .inl (E.2.1, 265, .inl (fun zz => nI (M zz))))] (fun r => (r = (-1) ∧ (¬ (((nI 0 ≤ a ∧ a ≤ nI 3) ∧ (nI 0 ≤ b ∧ b ≤ nI 3) ∧ a ≠ b) ∧ nI 0 ≤ w ∧ w ≤ nI 2))) ∨ (∃ (a0 : Nat) (b0 : Nat) (r9 : Int32), r = r9 ∧ ((nI 0 ≤ w ∧ w ≤ nI 2) ∧ a = nI a0 ∧ b = nI b0 ∧ a0 < 4 ∧ b0 < 4 ∧ a0 ≠ b0 ∧ r9 = if (slL (mT M) (mSt M) (mAm M) (M 8) a0 b0 144).1 = 0 then -4 else if w = nI 0 then nI (slL (mT M) (mSt M) (mAm M) (M 8) a0 b0 144).1 else if w = nI 1 then nI (slL (mT M) (mSt M) (mAm M) (M 8) a0 b0 144).2.1 else nI (slL (mT M) (mSt M) (mAm M) (M 8) a0 b0 144).2.2))) := by
  refine zR.start (own := RX7) rfl (by decide +kernel) rfl (Nat.le_of_ble_eq_true rfl) (fun _ _ => rfl) ?_
  intro pZ eZ sZ mZ argsZ belowZ methZ cZ QZ hF hret hP hG ls hl
  obtain ⟨hx, hb, hml, hown, hts⟩ := id hF
  have hl : lv_has ls 11 [(0, .ref x), (1, .int a), (2, .int b), (3, .int w)] := hl
  refine lv_iload_n hx hb dX7_slowest_0 rfl (lv_at hl 1 rfl) ?_
  refine lv_iload_n hx hb dX7_slowest_1 rfl (lv_at hl 2 rfl) ?_
  refine z_rd (fun _ h => h) (va_runS (As := [.int a, .int b]) (rest := []) hF (c_X7_areTwo l E a b ) (va_cwS 2 hts gX7_slowest_X7_areTwo rfl rfl rfl (by decide +kernel) ⟨Nat.le_of_ble_eq_true rfl, Nat.le_of_ble_eq_true rfl⟩) (z_preR (fun k q h => by simp at h) hG) rfl rfl hl.1 rfl (lv_room (Nat.le_of_ble_eq_true rfl)) dX7_slowest_2 ⟨Nat.zero_le _, Nat.zero_le _⟩) (fun r1 hr1 => ?_)
  rcases hr1 with ⟨rfl, c2⟩ | ⟨rfl, c2⟩
  · -- 2 t
    obtain ⟨a0, -, ha, rfl⟩ := z_ge (by omega) (by omega) c2.1.1 c2.1.2
    obtain ⟨b0, -, hb2, rfl⟩ := z_ge (by omega) (by omega) c2.2.1.1 c2.2.1.2
    have hab : a0 ≠ b0 := fun q => c2.2.2 (by rw [q])
    have hca := c2
    refine lv_if_eq (tgt := 17) hx hb dX7_slowest_5 (by decide) (fun c => absurd c (by decide)) (fun _ => ?_)
    refine lv_iload_n hx hb dX7_slowest_8 rfl (lv_at hl 3 rfl) ?_
    refine lv_iconst (v := nI 0) hx hb dX7_slowest_9 (by decide) ?_
    refine lv_iconst (v := nI 2) hx hb dX7_slowest_10 (by decide) ?_
    refine z_rd (fun _ h => h) (va_runS (As := [.int w, .int (nI 0), .int (nI 2)]) (rest := []) hF (c_X7_in l E w (nI 0) (nI 2) ) (va_cwS 3 hts gX7_slowest_X7_in rfl rfl rfl (by decide +kernel) ⟨Nat.le_of_ble_eq_true rfl, Nat.le_of_ble_eq_true rfl⟩) (z_preR (fun k q h => by simp at h) hG) rfl rfl hl.1 rfl (lv_room (Nat.le_of_ble_eq_true rfl)) dX7_slowest_11 ⟨Nat.zero_le _, Nat.zero_le _⟩) (fun r3 hr3 => ?_)
    rcases hr3 with ⟨rfl, c4⟩ | ⟨rfl, c4⟩
    · -- 11 t
      have hw := c4
      refine lv_if_ne (tgt := 19) hx hb dX7_slowest_14 (by decide) (fun _ => ?_) (fun c => absurd c (by decide))
      refine lv_bipush (v := (-4)) hx hb dX7_slowest_19 (by decide) ?_
      refine lv_istore (lv' := [(4, .int (-4)), (0, .ref x), (1, .int (nI a0)), (2, .int (nI b0)), (3, .int w)]) hx hb dX7_slowest_21 hl (by decide) rfl (fun ls hl => ?_)
      refine lv_iconst (v := nI 0) hx hb dX7_slowest_23 (by decide) ?_
      refine lv_istore (lv' := [(5, .int (nI 0)), (4, .int (-4)), (0, .ref x), (1, .int (nI a0)), (2, .int (nI b0)), (3, .int w)]) hx hb dX7_slowest_24 hl (by decide) rfl (fun ls hl => ?_)
      refine lv_iconst (v := nI 0) hx hb dX7_slowest_26 (by decide) ?_
      refine lv_istore (lv' := [(6, .int (nI 0)), (5, .int (nI 0)), (4, .int (-4)), (0, .ref x), (1, .int (nI a0)), (2, .int (nI b0)), (3, .int w)]) hx hb dX7_slowest_27 hl (by decide) rfl (fun ls hl => ?_)
      refine lv_iconst (v := nI 1) hx hb dX7_slowest_29 (by decide) ?_
      refine lv_istore (lv' := [(7, .int (nI 1)), (6, .int (nI 0)), (5, .int (nI 0)), (4, .int (-4)), (0, .ref x), (1, .int (nI a0)), (2, .int (nI b0)), (3, .int w)]) hx hb dX7_slowest_30 hl (by decide) rfl (fun ls hl => ?_)
      have L32_5 : ∀ (fuelZ : Nat) (g : Nat) (lv : Int32), 13 - g < fuelZ → (1 ≤ g) → (g ≤ 13) → (lv = if (slL (mT M) (mSt M) (mAm M) (M 8) a0 b0 ((g - 1) * 12)).1 = 0 then -4 else nI (slL (mT M) (mSt M) (mAm M) (M 8) a0 b0 ((g - 1) * 12)).1) → ∀ ls : Array Slot, lv_has ls 11 [(7, .int (nI g)), (6, .int (nI ((slL (mT M) (mSt M) (mAm M) (M 8) a0 b0 ((g - 1) * 12)).2.2))), (5, .int (nI ((slL (mT M) (mSt M) (mAm M) (M 8) a0 b0 ((g - 1) * 12)).2.1))), (4, .int lv), (0, .ref x), (1, .int (nI a0)), (2, .int (nI b0)), (3, .int w)] → W pZ l eZ ({ frames := 8, cells := 0, slots := 0, locals := 183 }) sZ mZ argsZ belowZ methZ cZ sZ.heap [] 0 0 QZ (F0 mZ 32 ls []) := by
        intro fuelZ
        induction fuelZ with
        | zero => intro g lv hm; exact absurd hm (Nat.not_lt_zero _)
        | succ fuelZ ih32 =>
          intro g lv hm i0 i1 hlv ls hl
          refine lv_iload hx hb dX7_slowest_32 (lv_at hl 0 rfl) ?_
          refine lv_bipush (v := nI 12) hx hb dX7_slowest_34 (by decide) ?_
          refine z_icmp_gt (a := g) (b := 12) (tgt := 139) hx hb dX7_slowest_36 (by decide) (by omega) (by omega) (fun c6 => ?_) (fun c6 => ?_)
          · -- 36 t
            have hg13 : (g - 1) * 12 = 144 := by omega
            rw [hg13] at hlv
            have hsb := slL_b (T := mT M) (St := mSt M) (Am := mAm M) (h := M 8) (a := a0) (b := b0) (hte a0 (by omega)) (hte b0 (by omega)) 144 (by omega)
            refine lv_iload hx hb dX7_slowest_139 (lv_at hl 3 rfl) ?_
            refine lv_if_lt (tgt := 148) hx hb dX7_slowest_141 (by decide) (fun c7 => ?_) (fun c7 => ?_)
            · -- 141 t
              refine lv_iload hx hb dX7_slowest_148 (lv_at hl 3 rfl) ?_
              refine lv_goto (tgt := 165) hx hb dX7_slowest_150 (by decide) ?_
              exact hret _ _ _ dX7_slowest_165 (Or.inr (⟨a0, b0, lv, rfl, ⟨hw, rfl, rfl, by omega, by omega, hab, by first | exact sl_r0 hlv (by assumption) hsb.1 | exact sl_r1 hlv (by assumption) | (rw [hg13]; exact sl_r2 hlv hsb.1 (by assumption) (by assumption) (by assumption)) | (rw [hg13]; exact sl_r3 hlv hsb.1 (by assumption) (by assumption) (by assumption))⟩⟩))
            · -- 141 f
              refine lv_iload_n hx hb dX7_slowest_144 rfl (lv_at hl 7 rfl) ?_
              refine lv_if_ne (tgt := 153) hx hb dX7_slowest_145 (by decide) (fun c8 => ?_) (fun c8 => ?_)
              · -- 145 t
                refine lv_iload_n hx hb dX7_slowest_153 rfl (lv_at hl 7 rfl) ?_
                refine lv_iconst (v := nI 1) hx hb dX7_slowest_154 (by decide) ?_
                refine lv_icmp_ne (tgt := 163) hx hb dX7_slowest_155 (by decide) (fun c9 => ?_) (fun c9 => ?_)
                · -- 155 t
                  refine lv_iload hx hb dX7_slowest_163 (lv_at hl 1 rfl) ?_
                  exact hret _ _ _ dX7_slowest_165 (Or.inr (⟨a0, b0, (nI ((slL (mT M) (mSt M) (mAm M) (M 8) a0 b0 ((g - 1) * 12)).2.2)), by first | rfl | (congr 1; omega), ⟨hw, rfl, rfl, by omega, by omega, hab, by first | exact sl_r0 hlv (by assumption) hsb.1 | exact sl_r1 hlv (by assumption) | (rw [hg13]; exact sl_r2 hlv hsb.1 (by assumption) (by assumption) (by assumption)) | (rw [hg13]; exact sl_r3 hlv hsb.1 (by assumption) (by assumption) (by assumption))⟩⟩))
                · -- 155 f
                  refine lv_iload hx hb dX7_slowest_158 (lv_at hl 2 rfl) ?_
                  refine lv_goto (tgt := 165) hx hb dX7_slowest_160 (by decide) ?_
                  exact hret _ _ _ dX7_slowest_165 (Or.inr (⟨a0, b0, (nI ((slL (mT M) (mSt M) (mAm M) (M 8) a0 b0 ((g - 1) * 12)).2.1)), by first | rfl | (congr 1; omega), ⟨hw, rfl, rfl, by omega, by omega, hab, by first | exact sl_r0 hlv (by assumption) hsb.1 | exact sl_r1 hlv (by assumption) | (rw [hg13]; exact sl_r2 hlv hsb.1 (by assumption) (by assumption) (by assumption)) | (rw [hg13]; exact sl_r3 hlv hsb.1 (by assumption) (by assumption) (by assumption))⟩⟩))
              · -- 145 f
                refine lv_iload hx hb dX7_slowest_148 (lv_at hl 3 rfl) ?_
                refine lv_goto (tgt := 165) hx hb dX7_slowest_150 (by decide) ?_
                exact hret _ _ _ dX7_slowest_165 (Or.inr (⟨a0, b0, lv, rfl, ⟨hw, rfl, rfl, by omega, by omega, hab, by first | exact sl_r0 hlv (by assumption) hsb.1 | exact sl_r1 hlv (by assumption) | (rw [hg13]; exact sl_r2 hlv hsb.1 (by assumption) (by assumption) (by assumption)) | (rw [hg13]; exact sl_r3 hlv hsb.1 (by assumption) (by assumption) (by assumption))⟩⟩))
          · -- 36 f
            refine lv_iconst (v := nI 1) hx hb dX7_slowest_39 (by decide) ?_
            refine lv_istore (lv' := [(8, .int (nI 1)), (7, .int (nI g)), (6, .int (nI ((slL (mT M) (mSt M) (mAm M) (M 8) a0 b0 ((g - 1) * 12)).2.2))), (5, .int (nI ((slL (mT M) (mSt M) (mAm M) (M 8) a0 b0 ((g - 1) * 12)).2.1))), (4, .int lv), (0, .ref x), (1, .int (nI a0)), (2, .int (nI b0)), (3, .int w)]) hx hb dX7_slowest_40 hl (by decide) rfl (fun ls hl => ?_)
            have L42_10 : ∀ (fuelZ : Nat) (m : Nat) (lv : Int32), 13 - m < fuelZ → (1 ≤ m) → (m ≤ 13) → (lv = if (slL (mT M) (mSt M) (mAm M) (M 8) a0 b0 ((g - 1) * 12 + (m - 1))).1 = 0 then -4 else nI (slL (mT M) (mSt M) (mAm M) (M 8) a0 b0 ((g - 1) * 12 + (m - 1))).1) → ∀ ls : Array Slot, lv_has ls 11 [(8, .int (nI m)), (7, .int (nI g)), (6, .int (nI ((slL (mT M) (mSt M) (mAm M) (M 8) a0 b0 ((g - 1) * 12 + (m - 1))).2.2))), (5, .int (nI ((slL (mT M) (mSt M) (mAm M) (M 8) a0 b0 ((g - 1) * 12 + (m - 1))).2.1))), (4, .int lv), (0, .ref x), (1, .int (nI a0)), (2, .int (nI b0)), (3, .int w)] → W pZ l eZ ({ frames := 8, cells := 0, slots := 0, locals := 183 }) sZ mZ argsZ belowZ methZ cZ sZ.heap [] 0 0 QZ (F0 mZ 42 ls []) := by
              intro fuelZ
              induction fuelZ with
              | zero => intro m lv hm; exact absurd hm (Nat.not_lt_zero _)
              | succ fuelZ ih42 =>
                intro m lv hm k0 k1 hlv ls hl
                refine lv_iload hx hb dX7_slowest_42 (lv_at hl 0 rfl) ?_
                refine lv_bipush (v := nI 12) hx hb dX7_slowest_44 (by decide) ?_
                refine z_icmp_gt (a := m) (b := 12) (tgt := 133) hx hb dX7_slowest_46 (by decide) (by omega) (by omega) (fun c11 => ?_) (fun c11 => ?_)
                · -- 46 t
                  refine z_iinc (k := 1) (d := 1) (lv' := [(7, .int (nI (g + 1))), (8, .int (nI m)), (6, .int (nI ((slL (mT M) (mSt M) (mAm M) (M 8) a0 b0 ((g - 1) * 12 + (m - 1))).2.2))), (5, .int (nI ((slL (mT M) (mSt M) (mAm M) (M 8) a0 b0 ((g - 1) * 12 + (m - 1))).2.1))), (4, .int lv), (0, .ref x), (1, .int (nI a0)), (2, .int (nI b0)), (3, .int w)]) hx hb dX7_slowest_133 (by decide) hl rfl (by decide) rfl (fun ls hl => ?_)
                  refine lv_goto (tgt := 32) hx hb dX7_slowest_136 (by decide) ?_
                  have e12 : nI ((slL (mT M) (mSt M) (mAm M) (M 8) a0 b0 ((g - 1) * 12 + (m - 1))).2.2) = nI ((slL (mT M) (mSt M) (mAm M) (M 8) a0 b0 (((g + 1) - 1) * 12)).2.2) := by rw [show (g - 1) * 12 + (m - 1) = (g + 1 - 1) * 12 by omega]
                  have hl : lv_has ls 11 [(7, .int (nI (g + 1))), (8, .int (nI m)), (6, .int (nI ((slL (mT M) (mSt M) (mAm M) (M 8) a0 b0 (((g + 1) - 1) * 12)).2.2))), (5, .int (nI ((slL (mT M) (mSt M) (mAm M) (M 8) a0 b0 ((g - 1) * 12 + (m - 1))).2.1))), (4, .int lv), (0, .ref x), (1, .int (nI a0)), (2, .int (nI b0)), (3, .int w)] := Eq.subst (motive := fun XX : Int32 => lv_has ls 11 [(7, .int (nI (g + 1))), (8, .int (nI m)), (6, .int XX), (5, .int (nI ((slL (mT M) (mSt M) (mAm M) (M 8) a0 b0 ((g - 1) * 12 + (m - 1))).2.1))), (4, .int lv), (0, .ref x), (1, .int (nI a0)), (2, .int (nI b0)), (3, .int w)]) e12 hl
                  have e13 : nI ((slL (mT M) (mSt M) (mAm M) (M 8) a0 b0 ((g - 1) * 12 + (m - 1))).2.1) = nI ((slL (mT M) (mSt M) (mAm M) (M 8) a0 b0 (((g + 1) - 1) * 12)).2.1) := by rw [show (g - 1) * 12 + (m - 1) = (g + 1 - 1) * 12 by omega]
                  have hl : lv_has ls 11 [(7, .int (nI (g + 1))), (8, .int (nI m)), (6, .int (nI ((slL (mT M) (mSt M) (mAm M) (M 8) a0 b0 (((g + 1) - 1) * 12)).2.2))), (5, .int (nI ((slL (mT M) (mSt M) (mAm M) (M 8) a0 b0 (((g + 1) - 1) * 12)).2.1))), (4, .int lv), (0, .ref x), (1, .int (nI a0)), (2, .int (nI b0)), (3, .int w)] := Eq.subst (motive := fun XX : Int32 => lv_has ls 11 [(7, .int (nI (g + 1))), (8, .int (nI m)), (6, .int (nI ((slL (mT M) (mSt M) (mAm M) (M 8) a0 b0 (((g + 1) - 1) * 12)).2.2))), (5, .int XX), (4, .int lv), (0, .ref x), (1, .int (nI a0)), (2, .int (nI b0)), (3, .int w)]) e13 hl
                  exact ih32 (g + 1) lv (by omega) (by omega) (by omega) (by rw [show (g + 1 - 1) * 12 = (g - 1) * 12 + (m - 1) by omega]; exact hlv) _ (lv_sub hl [0, 2, 3, 4, 5, 6, 7, 8] rfl)
                · -- 46 f
                  have hsb := slL_b (T := mT M) (St := mSt M) (Am := mAm M) (h := M 8) (a := a0) (b := b0) (hte a0 (by omega)) (hte b0 (by omega)) ((g - 1) * 12 + (m - 1)) (by omega)
                  refine lv_aload_n hx hb dX7_slowest_49 rfl (lv_at hl 5 rfl) ?_
                  refine lv_iload_n hx hb dX7_slowest_50 rfl (lv_at hl 6 rfl) ?_
                  refine lv_iload hx hb dX7_slowest_51 (lv_at hl 1 rfl) ?_
                  refine lv_iload_n hx hb dX7_slowest_53 rfl (lv_at hl 7 rfl) ?_
                  refine lv_iload hx hb dX7_slowest_54 (lv_at hl 0 rfl) ?_
                  have hPc := zP_sub (w := [(x, .inr (7, [.ref ms, .ref mp, .int (nI pz), .ref mt, .int (nI len), .ref md, .int (nI sp), .int q1, .int q2, .int q3, .int q4, .int q5, .int (nI fm)])), (ms, .inl (E.2.1, 265, .inl (fun zz => nI (M zz))))]) hP [0, 1] rfl
                  refine z_rd (fun _ h => h) (va_runV (As := [.int (nI a0), .int (nI g), .int (nI b0), .int (nI m)]) (rest := []) hF (c_X7_beats l E x ms mp mt md pz len sp fm a0 g b0 m q1 q2 q3 q4 q5 M (by first | assumption | omega) (by first | assumption | omega) (by first | assumption | omega) (by first | assumption | omega) (by first | assumption | omega) (by first | assumption | omega) (by first | assumption | omega) (by first | assumption | omega) (by first | assumption | omega) (by first | assumption | omega) (by first | assumption | omega) (by first | assumption | omega) (by first | assumption | omega)) (cwV 4 hts gX7_slowest_X7_beats rfl rfl rfl (by decide +kernel) ⟨Nat.le_of_ble_eq_true rfl, Nat.le_of_ble_eq_true rfl⟩) (z_preRV (va_recv hG.1 hP (ci := 7) (q0 := 0) rfl rfl) hPc hG) rfl rfl hl.1 rfl (lv_room (Nat.le_of_ble_eq_true rfl)) dX7_slowest_56 ⟨Nat.zero_le _, Nat.zero_le _⟩) (fun r14 hr14 => ?_)
                  rcases hr14 with ⟨rfl, c15⟩ | ⟨rfl, c16⟩
                  · -- 56 case 0
                    have hcf : ¬ (0 < beatV (mT M) (mSt M) (mAm M) (M 8) a0 g b0 m ∧ ((slL (mT M) (mSt M) (mAm M) (M 8) a0 b0 ((g - 1) * 12 + (m - 1))).1 = 0 ∨ beatV (mT M) (mSt M) (mAm M) (M 8) a0 g b0 m < (slL (mT M) (mSt M) (mAm M) (M 8) a0 b0 ((g - 1) * 12 + (m - 1))).1)) := fun q => by omega
                    refine lv_istore (lv' := [(9, .int (-4)), (8, .int (nI m)), (7, .int (nI g)), (6, .int (nI ((slL (mT M) (mSt M) (mAm M) (M 8) a0 b0 ((g - 1) * 12 + (m - 1))).2.2))), (5, .int (nI ((slL (mT M) (mSt M) (mAm M) (M 8) a0 b0 ((g - 1) * 12 + (m - 1))).2.1))), (4, .int lv), (0, .ref x), (1, .int (nI a0)), (2, .int (nI b0)), (3, .int w)]) hx hb dX7_slowest_59 hl (by decide) rfl (fun ls hl => ?_)
                    refine lv_iload hx hb dX7_slowest_61 (lv_at hl 0 rfl) ?_
                    refine lv_if_lt (tgt := 82) hx hb dX7_slowest_63 (by decide) (fun _ => ?_) (fun c => absurd c (by decide))
                    refine lv_iconst (v := nI 0) hx hb dX7_slowest_82 (by decide) ?_
                    refine lv_istore (lv' := [(10, .int (nI 0)), (9, .int (-4)), (8, .int (nI m)), (7, .int (nI g)), (6, .int (nI ((slL (mT M) (mSt M) (mAm M) (M 8) a0 b0 ((g - 1) * 12 + (m - 1))).2.2))), (5, .int (nI ((slL (mT M) (mSt M) (mAm M) (M 8) a0 b0 ((g - 1) * 12 + (m - 1))).2.1))), (4, .int lv), (0, .ref x), (1, .int (nI a0)), (2, .int (nI b0)), (3, .int w)]) hx hb dX7_slowest_83 hl (by decide) rfl (fun ls hl => ?_)
                    refine lv_iload hx hb dX7_slowest_85 (lv_at hl 0 rfl) ?_
                    refine lv_if_eq (tgt := 95) hx hb dX7_slowest_87 (by decide) (fun _ => ?_) (fun c => absurd c (by decide))
                    refine lv_iload hx hb dX7_slowest_95 (lv_at hl 5 rfl) ?_
                    refine lv_istore (lv' := [(5, .int (nI ((slL (mT M) (mSt M) (mAm M) (M 8) a0 b0 ((g - 1) * 12 + (m - 1))).2.1))), (10, .int (nI 0)), (9, .int (-4)), (8, .int (nI m)), (7, .int (nI g)), (6, .int (nI ((slL (mT M) (mSt M) (mAm M) (M 8) a0 b0 ((g - 1) * 12 + (m - 1))).2.2))), (4, .int lv), (0, .ref x), (1, .int (nI a0)), (2, .int (nI b0)), (3, .int w)]) hx hb dX7_slowest_97 hl (by decide) rfl (fun ls hl => ?_)
                    refine lv_iload hx hb dX7_slowest_99 (lv_at hl 1 rfl) ?_
                    refine lv_if_eq (tgt := 109) hx hb dX7_slowest_101 (by decide) (fun _ => ?_) (fun c => absurd c (by decide))
                    refine lv_iload hx hb dX7_slowest_109 (lv_at hl 5 rfl) ?_
                    refine lv_istore (lv' := [(6, .int (nI ((slL (mT M) (mSt M) (mAm M) (M 8) a0 b0 ((g - 1) * 12 + (m - 1))).2.2))), (5, .int (nI ((slL (mT M) (mSt M) (mAm M) (M 8) a0 b0 ((g - 1) * 12 + (m - 1))).2.1))), (10, .int (nI 0)), (9, .int (-4)), (8, .int (nI m)), (7, .int (nI g)), (4, .int lv), (0, .ref x), (1, .int (nI a0)), (2, .int (nI b0)), (3, .int w)]) hx hb dX7_slowest_111 hl (by decide) rfl (fun ls hl => ?_)
                    refine lv_iload hx hb dX7_slowest_113 (lv_at hl 2 rfl) ?_
                    refine lv_if_eq (tgt := 123) hx hb dX7_slowest_115 (by decide) (fun _ => ?_) (fun c => absurd c (by decide))
                    refine lv_iload hx hb dX7_slowest_123 (lv_at hl 6 rfl) ?_
                    refine lv_istore (lv' := [(4, .int lv), (6, .int (nI ((slL (mT M) (mSt M) (mAm M) (M 8) a0 b0 ((g - 1) * 12 + (m - 1))).2.2))), (5, .int (nI ((slL (mT M) (mSt M) (mAm M) (M 8) a0 b0 ((g - 1) * 12 + (m - 1))).2.1))), (10, .int (nI 0)), (9, .int (-4)), (8, .int (nI m)), (7, .int (nI g)), (0, .ref x), (1, .int (nI a0)), (2, .int (nI b0)), (3, .int w)]) hx hb dX7_slowest_125 hl (by decide) rfl (fun ls hl => ?_)
                    refine z_iinc (k := 5) (d := 1) (lv' := [(8, .int (nI (m + 1))), (4, .int lv), (6, .int (nI ((slL (mT M) (mSt M) (mAm M) (M 8) a0 b0 ((g - 1) * 12 + (m - 1))).2.2))), (5, .int (nI ((slL (mT M) (mSt M) (mAm M) (M 8) a0 b0 ((g - 1) * 12 + (m - 1))).2.1))), (10, .int (nI 0)), (9, .int (-4)), (7, .int (nI g)), (0, .ref x), (1, .int (nI a0)), (2, .int (nI b0)), (3, .int w)]) hx hb dX7_slowest_127 (by decide) hl rfl (by decide) rfl (fun ls hl => ?_)
                    refine lv_goto (tgt := 42) hx hb dX7_slowest_130 (by decide) ?_
                    have e17 : nI ((slL (mT M) (mSt M) (mAm M) (M 8) a0 b0 ((g - 1) * 12 + (m - 1))).2.2) = nI ((slL (mT M) (mSt M) (mAm M) (M 8) a0 b0 ((g - 1) * 12 + ((m + 1) - 1))).2.2) := by first | rw [slL_t (T := mT M) (St := mSt M) (Am := mAm M) (h := M 8) (a := a0) (b := b0) (n := g) (m := m) (v := beatV (mT M) (mSt M) (mAm M) (M 8) a0 g b0 m) k0 (by omega) i0 rfl (by omega) hcc] | rw [slL_f (T := mT M) (St := mSt M) (Am := mAm M) (h := M 8) (a := a0) (b := b0) (n := g) (m := m) (v := beatV (mT M) (mSt M) (mAm M) (M 8) a0 g b0 m) k0 (by omega) i0 rfl hcf]
                    have hl : lv_has ls 11 [(8, .int (nI (m + 1))), (4, .int lv), (6, .int (nI ((slL (mT M) (mSt M) (mAm M) (M 8) a0 b0 ((g - 1) * 12 + ((m + 1) - 1))).2.2))), (5, .int (nI ((slL (mT M) (mSt M) (mAm M) (M 8) a0 b0 ((g - 1) * 12 + (m - 1))).2.1))), (10, .int (nI 0)), (9, .int (-4)), (7, .int (nI g)), (0, .ref x), (1, .int (nI a0)), (2, .int (nI b0)), (3, .int w)] := Eq.subst (motive := fun XX : Int32 => lv_has ls 11 [(8, .int (nI (m + 1))), (4, .int lv), (6, .int XX), (5, .int (nI ((slL (mT M) (mSt M) (mAm M) (M 8) a0 b0 ((g - 1) * 12 + (m - 1))).2.1))), (10, .int (nI 0)), (9, .int (-4)), (7, .int (nI g)), (0, .ref x), (1, .int (nI a0)), (2, .int (nI b0)), (3, .int w)]) e17 hl
                    have e18 : nI ((slL (mT M) (mSt M) (mAm M) (M 8) a0 b0 ((g - 1) * 12 + (m - 1))).2.1) = nI ((slL (mT M) (mSt M) (mAm M) (M 8) a0 b0 ((g - 1) * 12 + ((m + 1) - 1))).2.1) := by first | rw [slL_t (T := mT M) (St := mSt M) (Am := mAm M) (h := M 8) (a := a0) (b := b0) (n := g) (m := m) (v := beatV (mT M) (mSt M) (mAm M) (M 8) a0 g b0 m) k0 (by omega) i0 rfl (by omega) hcc] | rw [slL_f (T := mT M) (St := mSt M) (Am := mAm M) (h := M 8) (a := a0) (b := b0) (n := g) (m := m) (v := beatV (mT M) (mSt M) (mAm M) (M 8) a0 g b0 m) k0 (by omega) i0 rfl hcf]
                    have hl : lv_has ls 11 [(8, .int (nI (m + 1))), (4, .int lv), (6, .int (nI ((slL (mT M) (mSt M) (mAm M) (M 8) a0 b0 ((g - 1) * 12 + ((m + 1) - 1))).2.2))), (5, .int (nI ((slL (mT M) (mSt M) (mAm M) (M 8) a0 b0 ((g - 1) * 12 + ((m + 1) - 1))).2.1))), (10, .int (nI 0)), (9, .int (-4)), (7, .int (nI g)), (0, .ref x), (1, .int (nI a0)), (2, .int (nI b0)), (3, .int w)] := Eq.subst (motive := fun XX : Int32 => lv_has ls 11 [(8, .int (nI (m + 1))), (4, .int lv), (6, .int (nI ((slL (mT M) (mSt M) (mAm M) (M 8) a0 b0 ((g - 1) * 12 + ((m + 1) - 1))).2.2))), (5, .int XX), (10, .int (nI 0)), (9, .int (-4)), (7, .int (nI g)), (0, .ref x), (1, .int (nI a0)), (2, .int (nI b0)), (3, .int w)]) e18 hl
                    exact ih42 (m + 1) lv (by omega) (by omega) (by omega) (by first | (rw [slL_t (T := mT M) (St := mSt M) (Am := mAm M) (h := M 8) (a := a0) (b := b0) (n := g) (m := m) (v := beatV (mT M) (mSt M) (mAm M) (M 8) a0 g b0 m) k0 (by omega) i0 rfl (by omega) hcc]; exact (if_neg (by omega)).symm) | (rw [slL_f (T := mT M) (St := mSt M) (Am := mAm M) (h := M 8) (a := a0) (b := b0) (n := g) (m := m) (v := beatV (mT M) (mSt M) (mAm M) (M 8) a0 g b0 m) k0 (by omega) i0 rfl hcf]; exact hlv)) _ (lv_sub hl [0, 6, 2, 3, 1, 7, 8, 9, 10] rfl)
                  · -- 56 case 1
                    refine lv_istore (lv' := [(9, .int (nI (beatV (mT M) (mSt M) (mAm M) (M 8) a0 g b0 m))), (8, .int (nI m)), (7, .int (nI g)), (6, .int (nI ((slL (mT M) (mSt M) (mAm M) (M 8) a0 b0 ((g - 1) * 12 + (m - 1))).2.2))), (5, .int (nI ((slL (mT M) (mSt M) (mAm M) (M 8) a0 b0 ((g - 1) * 12 + (m - 1))).2.1))), (4, .int lv), (0, .ref x), (1, .int (nI a0)), (2, .int (nI b0)), (3, .int w)]) hx hb dX7_slowest_59 hl (by decide) rfl (fun ls hl => ?_)
                    refine lv_iload hx hb dX7_slowest_61 (lv_at hl 0 rfl) ?_
                    refine z_if_lt (tgt := 82) hx hb dX7_slowest_63 (by decide) (by omega) ?_
                    refine lv_iload hx hb dX7_slowest_66 (lv_at hl 5 rfl) ?_
                    refine lv_if_lt (tgt := 78) hx hb dX7_slowest_68 (by decide) (fun c19 => ?_) (fun c19 => ?_)
                    · -- 68 t
                      have hz := (sl_neg hsb.1 hlv).mp c19
                      have hcc : (slL (mT M) (mSt M) (mAm M) (M 8) a0 b0 ((g - 1) * 12 + (m - 1))).1 = 0 ∨ beatV (mT M) (mSt M) (mAm M) (M 8) a0 g b0 m < (slL (mT M) (mSt M) (mAm M) (M 8) a0 b0 ((g - 1) * 12 + (m - 1))).1 := Or.inl hz
                      refine lv_iconst (v := nI 1) hx hb dX7_slowest_78 (by decide) ?_
                      refine lv_goto (tgt := 83) hx hb dX7_slowest_79 (by decide) ?_
                      refine lv_istore (lv' := [(10, .int (nI 1)), (9, .int (nI (beatV (mT M) (mSt M) (mAm M) (M 8) a0 g b0 m))), (8, .int (nI m)), (7, .int (nI g)), (6, .int (nI ((slL (mT M) (mSt M) (mAm M) (M 8) a0 b0 ((g - 1) * 12 + (m - 1))).2.2))), (5, .int (nI ((slL (mT M) (mSt M) (mAm M) (M 8) a0 b0 ((g - 1) * 12 + (m - 1))).2.1))), (4, .int lv), (0, .ref x), (1, .int (nI a0)), (2, .int (nI b0)), (3, .int w)]) hx hb dX7_slowest_83 hl (by decide) rfl (fun ls hl => ?_)
                      refine lv_iload hx hb dX7_slowest_85 (lv_at hl 0 rfl) ?_
                      refine lv_if_eq (tgt := 95) hx hb dX7_slowest_87 (by decide) (fun c => absurd c (by decide)) (fun _ => ?_)
                      refine lv_iload hx hb dX7_slowest_90 (lv_at hl 3 rfl) ?_
                      refine lv_goto (tgt := 97) hx hb dX7_slowest_92 (by decide) ?_
                      refine lv_istore (lv' := [(5, .int (nI g)), (10, .int (nI 1)), (9, .int (nI (beatV (mT M) (mSt M) (mAm M) (M 8) a0 g b0 m))), (8, .int (nI m)), (7, .int (nI g)), (6, .int (nI ((slL (mT M) (mSt M) (mAm M) (M 8) a0 b0 ((g - 1) * 12 + (m - 1))).2.2))), (4, .int lv), (0, .ref x), (1, .int (nI a0)), (2, .int (nI b0)), (3, .int w)]) hx hb dX7_slowest_97 hl (by decide) rfl (fun ls hl => ?_)
                      refine lv_iload hx hb dX7_slowest_99 (lv_at hl 1 rfl) ?_
                      refine lv_if_eq (tgt := 109) hx hb dX7_slowest_101 (by decide) (fun c => absurd c (by decide)) (fun _ => ?_)
                      refine lv_iload hx hb dX7_slowest_104 (lv_at hl 3 rfl) ?_
                      refine lv_goto (tgt := 111) hx hb dX7_slowest_106 (by decide) ?_
                      refine lv_istore (lv' := [(6, .int (nI m)), (5, .int (nI g)), (10, .int (nI 1)), (9, .int (nI (beatV (mT M) (mSt M) (mAm M) (M 8) a0 g b0 m))), (8, .int (nI m)), (7, .int (nI g)), (4, .int lv), (0, .ref x), (1, .int (nI a0)), (2, .int (nI b0)), (3, .int w)]) hx hb dX7_slowest_111 hl (by decide) rfl (fun ls hl => ?_)
                      refine lv_iload hx hb dX7_slowest_113 (lv_at hl 2 rfl) ?_
                      refine lv_if_eq (tgt := 123) hx hb dX7_slowest_115 (by decide) (fun c => absurd c (by decide)) (fun _ => ?_)
                      refine lv_iload hx hb dX7_slowest_118 (lv_at hl 3 rfl) ?_
                      refine lv_goto (tgt := 125) hx hb dX7_slowest_120 (by decide) ?_
                      refine lv_istore (lv' := [(4, .int (nI (beatV (mT M) (mSt M) (mAm M) (M 8) a0 g b0 m))), (6, .int (nI m)), (5, .int (nI g)), (10, .int (nI 1)), (9, .int (nI (beatV (mT M) (mSt M) (mAm M) (M 8) a0 g b0 m))), (8, .int (nI m)), (7, .int (nI g)), (0, .ref x), (1, .int (nI a0)), (2, .int (nI b0)), (3, .int w)]) hx hb dX7_slowest_125 hl (by decide) rfl (fun ls hl => ?_)
                      refine z_iinc (k := 5) (d := 1) (lv' := [(8, .int (nI (m + 1))), (4, .int (nI (beatV (mT M) (mSt M) (mAm M) (M 8) a0 g b0 m))), (6, .int (nI m)), (5, .int (nI g)), (10, .int (nI 1)), (9, .int (nI (beatV (mT M) (mSt M) (mAm M) (M 8) a0 g b0 m))), (7, .int (nI g)), (0, .ref x), (1, .int (nI a0)), (2, .int (nI b0)), (3, .int w)]) hx hb dX7_slowest_127 (by decide) hl rfl (by decide) rfl (fun ls hl => ?_)
                      refine lv_goto (tgt := 42) hx hb dX7_slowest_130 (by decide) ?_
                      have e20 : nI m = nI ((slL (mT M) (mSt M) (mAm M) (M 8) a0 b0 ((g - 1) * 12 + ((m + 1) - 1))).2.2) := by first | rw [slL_t (T := mT M) (St := mSt M) (Am := mAm M) (h := M 8) (a := a0) (b := b0) (n := g) (m := m) (v := beatV (mT M) (mSt M) (mAm M) (M 8) a0 g b0 m) k0 (by omega) i0 rfl (by omega) hcc] | rw [slL_f (T := mT M) (St := mSt M) (Am := mAm M) (h := M 8) (a := a0) (b := b0) (n := g) (m := m) (v := beatV (mT M) (mSt M) (mAm M) (M 8) a0 g b0 m) k0 (by omega) i0 rfl hcf]
                      have hl : lv_has ls 11 [(8, .int (nI (m + 1))), (4, .int (nI (beatV (mT M) (mSt M) (mAm M) (M 8) a0 g b0 m))), (6, .int (nI ((slL (mT M) (mSt M) (mAm M) (M 8) a0 b0 ((g - 1) * 12 + ((m + 1) - 1))).2.2))), (5, .int (nI g)), (10, .int (nI 1)), (9, .int (nI (beatV (mT M) (mSt M) (mAm M) (M 8) a0 g b0 m))), (7, .int (nI g)), (0, .ref x), (1, .int (nI a0)), (2, .int (nI b0)), (3, .int w)] := Eq.subst (motive := fun XX : Int32 => lv_has ls 11 [(8, .int (nI (m + 1))), (4, .int (nI (beatV (mT M) (mSt M) (mAm M) (M 8) a0 g b0 m))), (6, .int XX), (5, .int (nI g)), (10, .int (nI 1)), (9, .int (nI (beatV (mT M) (mSt M) (mAm M) (M 8) a0 g b0 m))), (7, .int (nI g)), (0, .ref x), (1, .int (nI a0)), (2, .int (nI b0)), (3, .int w)]) e20 hl
                      have e21 : nI g = nI ((slL (mT M) (mSt M) (mAm M) (M 8) a0 b0 ((g - 1) * 12 + ((m + 1) - 1))).2.1) := by first | rw [slL_t (T := mT M) (St := mSt M) (Am := mAm M) (h := M 8) (a := a0) (b := b0) (n := g) (m := m) (v := beatV (mT M) (mSt M) (mAm M) (M 8) a0 g b0 m) k0 (by omega) i0 rfl (by omega) hcc] | rw [slL_f (T := mT M) (St := mSt M) (Am := mAm M) (h := M 8) (a := a0) (b := b0) (n := g) (m := m) (v := beatV (mT M) (mSt M) (mAm M) (M 8) a0 g b0 m) k0 (by omega) i0 rfl hcf]
                      have hl : lv_has ls 11 [(8, .int (nI (m + 1))), (4, .int (nI (beatV (mT M) (mSt M) (mAm M) (M 8) a0 g b0 m))), (6, .int (nI ((slL (mT M) (mSt M) (mAm M) (M 8) a0 b0 ((g - 1) * 12 + ((m + 1) - 1))).2.2))), (5, .int (nI ((slL (mT M) (mSt M) (mAm M) (M 8) a0 b0 ((g - 1) * 12 + ((m + 1) - 1))).2.1))), (10, .int (nI 1)), (9, .int (nI (beatV (mT M) (mSt M) (mAm M) (M 8) a0 g b0 m))), (7, .int (nI g)), (0, .ref x), (1, .int (nI a0)), (2, .int (nI b0)), (3, .int w)] := Eq.subst (motive := fun XX : Int32 => lv_has ls 11 [(8, .int (nI (m + 1))), (4, .int (nI (beatV (mT M) (mSt M) (mAm M) (M 8) a0 g b0 m))), (6, .int (nI ((slL (mT M) (mSt M) (mAm M) (M 8) a0 b0 ((g - 1) * 12 + ((m + 1) - 1))).2.2))), (5, .int XX), (10, .int (nI 1)), (9, .int (nI (beatV (mT M) (mSt M) (mAm M) (M 8) a0 g b0 m))), (7, .int (nI g)), (0, .ref x), (1, .int (nI a0)), (2, .int (nI b0)), (3, .int w)]) e21 hl
                      exact ih42 (m + 1) (nI (beatV (mT M) (mSt M) (mAm M) (M 8) a0 g b0 m)) (by omega) (by omega) (by omega) (by first | (rw [slL_t (T := mT M) (St := mSt M) (Am := mAm M) (h := M 8) (a := a0) (b := b0) (n := g) (m := m) (v := beatV (mT M) (mSt M) (mAm M) (M 8) a0 g b0 m) k0 (by omega) i0 rfl (by omega) hcc]; exact (if_neg (by omega)).symm) | (rw [slL_f (T := mT M) (St := mSt M) (Am := mAm M) (h := M 8) (a := a0) (b := b0) (n := g) (m := m) (v := beatV (mT M) (mSt M) (mAm M) (M 8) a0 g b0 m) k0 (by omega) i0 rfl hcf]; exact hlv)) _ (lv_sub hl [0, 6, 2, 3, 1, 7, 8, 9, 10] rfl)
                    · -- 68 f
                      have hz : (slL (mT M) (mSt M) (mAm M) (M 8) a0 b0 ((g - 1) * 12 + (m - 1))).1 ≠ 0 := fun q => c19 ((sl_neg hsb.1 hlv).mpr q)
                      refine lv_iload hx hb dX7_slowest_71 (lv_at hl 0 rfl) ?_
                      refine lv_iload hx hb dX7_slowest_73 (lv_at hl 5 rfl) ?_
                      refine lv_icmp_ge (tgt := 82) hx hb dX7_slowest_75 (by decide) (fun c22 => ?_) (fun c22 => ?_)
                      · -- 75 t
                        have hcf : ¬ (0 < beatV (mT M) (mSt M) (mAm M) (M 8) a0 g b0 m ∧ ((slL (mT M) (mSt M) (mAm M) (M 8) a0 b0 ((g - 1) * 12 + (m - 1))).1 = 0 ∨ beatV (mT M) (mSt M) (mAm M) (M 8) a0 g b0 m < (slL (mT M) (mSt M) (mAm M) (M 8) a0 b0 ((g - 1) * 12 + (m - 1))).1)) := fun q => by have := (sl_le hsb.1 (by omega) hlv hz).mp c22; omega
                        refine lv_iconst (v := nI 0) hx hb dX7_slowest_82 (by decide) ?_
                        refine lv_istore (lv' := [(10, .int (nI 0)), (9, .int (nI (beatV (mT M) (mSt M) (mAm M) (M 8) a0 g b0 m))), (8, .int (nI m)), (7, .int (nI g)), (6, .int (nI ((slL (mT M) (mSt M) (mAm M) (M 8) a0 b0 ((g - 1) * 12 + (m - 1))).2.2))), (5, .int (nI ((slL (mT M) (mSt M) (mAm M) (M 8) a0 b0 ((g - 1) * 12 + (m - 1))).2.1))), (4, .int lv), (0, .ref x), (1, .int (nI a0)), (2, .int (nI b0)), (3, .int w)]) hx hb dX7_slowest_83 hl (by decide) rfl (fun ls hl => ?_)
                        refine lv_iload hx hb dX7_slowest_85 (lv_at hl 0 rfl) ?_
                        refine lv_if_eq (tgt := 95) hx hb dX7_slowest_87 (by decide) (fun _ => ?_) (fun c => absurd c (by decide))
                        refine lv_iload hx hb dX7_slowest_95 (lv_at hl 5 rfl) ?_
                        refine lv_istore (lv' := [(5, .int (nI ((slL (mT M) (mSt M) (mAm M) (M 8) a0 b0 ((g - 1) * 12 + (m - 1))).2.1))), (10, .int (nI 0)), (9, .int (nI (beatV (mT M) (mSt M) (mAm M) (M 8) a0 g b0 m))), (8, .int (nI m)), (7, .int (nI g)), (6, .int (nI ((slL (mT M) (mSt M) (mAm M) (M 8) a0 b0 ((g - 1) * 12 + (m - 1))).2.2))), (4, .int lv), (0, .ref x), (1, .int (nI a0)), (2, .int (nI b0)), (3, .int w)]) hx hb dX7_slowest_97 hl (by decide) rfl (fun ls hl => ?_)
                        refine lv_iload hx hb dX7_slowest_99 (lv_at hl 1 rfl) ?_
                        refine lv_if_eq (tgt := 109) hx hb dX7_slowest_101 (by decide) (fun _ => ?_) (fun c => absurd c (by decide))
                        refine lv_iload hx hb dX7_slowest_109 (lv_at hl 5 rfl) ?_
                        refine lv_istore (lv' := [(6, .int (nI ((slL (mT M) (mSt M) (mAm M) (M 8) a0 b0 ((g - 1) * 12 + (m - 1))).2.2))), (5, .int (nI ((slL (mT M) (mSt M) (mAm M) (M 8) a0 b0 ((g - 1) * 12 + (m - 1))).2.1))), (10, .int (nI 0)), (9, .int (nI (beatV (mT M) (mSt M) (mAm M) (M 8) a0 g b0 m))), (8, .int (nI m)), (7, .int (nI g)), (4, .int lv), (0, .ref x), (1, .int (nI a0)), (2, .int (nI b0)), (3, .int w)]) hx hb dX7_slowest_111 hl (by decide) rfl (fun ls hl => ?_)
                        refine lv_iload hx hb dX7_slowest_113 (lv_at hl 2 rfl) ?_
                        refine lv_if_eq (tgt := 123) hx hb dX7_slowest_115 (by decide) (fun _ => ?_) (fun c => absurd c (by decide))
                        refine lv_iload hx hb dX7_slowest_123 (lv_at hl 6 rfl) ?_
                        refine lv_istore (lv' := [(4, .int lv), (6, .int (nI ((slL (mT M) (mSt M) (mAm M) (M 8) a0 b0 ((g - 1) * 12 + (m - 1))).2.2))), (5, .int (nI ((slL (mT M) (mSt M) (mAm M) (M 8) a0 b0 ((g - 1) * 12 + (m - 1))).2.1))), (10, .int (nI 0)), (9, .int (nI (beatV (mT M) (mSt M) (mAm M) (M 8) a0 g b0 m))), (8, .int (nI m)), (7, .int (nI g)), (0, .ref x), (1, .int (nI a0)), (2, .int (nI b0)), (3, .int w)]) hx hb dX7_slowest_125 hl (by decide) rfl (fun ls hl => ?_)
                        refine z_iinc (k := 5) (d := 1) (lv' := [(8, .int (nI (m + 1))), (4, .int lv), (6, .int (nI ((slL (mT M) (mSt M) (mAm M) (M 8) a0 b0 ((g - 1) * 12 + (m - 1))).2.2))), (5, .int (nI ((slL (mT M) (mSt M) (mAm M) (M 8) a0 b0 ((g - 1) * 12 + (m - 1))).2.1))), (10, .int (nI 0)), (9, .int (nI (beatV (mT M) (mSt M) (mAm M) (M 8) a0 g b0 m))), (7, .int (nI g)), (0, .ref x), (1, .int (nI a0)), (2, .int (nI b0)), (3, .int w)]) hx hb dX7_slowest_127 (by decide) hl rfl (by decide) rfl (fun ls hl => ?_)
                        refine lv_goto (tgt := 42) hx hb dX7_slowest_130 (by decide) ?_
                        have e23 : nI ((slL (mT M) (mSt M) (mAm M) (M 8) a0 b0 ((g - 1) * 12 + (m - 1))).2.2) = nI ((slL (mT M) (mSt M) (mAm M) (M 8) a0 b0 ((g - 1) * 12 + ((m + 1) - 1))).2.2) := by first | rw [slL_t (T := mT M) (St := mSt M) (Am := mAm M) (h := M 8) (a := a0) (b := b0) (n := g) (m := m) (v := beatV (mT M) (mSt M) (mAm M) (M 8) a0 g b0 m) k0 (by omega) i0 rfl (by omega) hcc] | rw [slL_f (T := mT M) (St := mSt M) (Am := mAm M) (h := M 8) (a := a0) (b := b0) (n := g) (m := m) (v := beatV (mT M) (mSt M) (mAm M) (M 8) a0 g b0 m) k0 (by omega) i0 rfl hcf]
                        have hl : lv_has ls 11 [(8, .int (nI (m + 1))), (4, .int lv), (6, .int (nI ((slL (mT M) (mSt M) (mAm M) (M 8) a0 b0 ((g - 1) * 12 + ((m + 1) - 1))).2.2))), (5, .int (nI ((slL (mT M) (mSt M) (mAm M) (M 8) a0 b0 ((g - 1) * 12 + (m - 1))).2.1))), (10, .int (nI 0)), (9, .int (nI (beatV (mT M) (mSt M) (mAm M) (M 8) a0 g b0 m))), (7, .int (nI g)), (0, .ref x), (1, .int (nI a0)), (2, .int (nI b0)), (3, .int w)] := Eq.subst (motive := fun XX : Int32 => lv_has ls 11 [(8, .int (nI (m + 1))), (4, .int lv), (6, .int XX), (5, .int (nI ((slL (mT M) (mSt M) (mAm M) (M 8) a0 b0 ((g - 1) * 12 + (m - 1))).2.1))), (10, .int (nI 0)), (9, .int (nI (beatV (mT M) (mSt M) (mAm M) (M 8) a0 g b0 m))), (7, .int (nI g)), (0, .ref x), (1, .int (nI a0)), (2, .int (nI b0)), (3, .int w)]) e23 hl
                        have e24 : nI ((slL (mT M) (mSt M) (mAm M) (M 8) a0 b0 ((g - 1) * 12 + (m - 1))).2.1) = nI ((slL (mT M) (mSt M) (mAm M) (M 8) a0 b0 ((g - 1) * 12 + ((m + 1) - 1))).2.1) := by first | rw [slL_t (T := mT M) (St := mSt M) (Am := mAm M) (h := M 8) (a := a0) (b := b0) (n := g) (m := m) (v := beatV (mT M) (mSt M) (mAm M) (M 8) a0 g b0 m) k0 (by omega) i0 rfl (by omega) hcc] | rw [slL_f (T := mT M) (St := mSt M) (Am := mAm M) (h := M 8) (a := a0) (b := b0) (n := g) (m := m) (v := beatV (mT M) (mSt M) (mAm M) (M 8) a0 g b0 m) k0 (by omega) i0 rfl hcf]
                        have hl : lv_has ls 11 [(8, .int (nI (m + 1))), (4, .int lv), (6, .int (nI ((slL (mT M) (mSt M) (mAm M) (M 8) a0 b0 ((g - 1) * 12 + ((m + 1) - 1))).2.2))), (5, .int (nI ((slL (mT M) (mSt M) (mAm M) (M 8) a0 b0 ((g - 1) * 12 + ((m + 1) - 1))).2.1))), (10, .int (nI 0)), (9, .int (nI (beatV (mT M) (mSt M) (mAm M) (M 8) a0 g b0 m))), (7, .int (nI g)), (0, .ref x), (1, .int (nI a0)), (2, .int (nI b0)), (3, .int w)] := Eq.subst (motive := fun XX : Int32 => lv_has ls 11 [(8, .int (nI (m + 1))), (4, .int lv), (6, .int (nI ((slL (mT M) (mSt M) (mAm M) (M 8) a0 b0 ((g - 1) * 12 + ((m + 1) - 1))).2.2))), (5, .int XX), (10, .int (nI 0)), (9, .int (nI (beatV (mT M) (mSt M) (mAm M) (M 8) a0 g b0 m))), (7, .int (nI g)), (0, .ref x), (1, .int (nI a0)), (2, .int (nI b0)), (3, .int w)]) e24 hl
                        exact ih42 (m + 1) lv (by omega) (by omega) (by omega) (by first | (rw [slL_t (T := mT M) (St := mSt M) (Am := mAm M) (h := M 8) (a := a0) (b := b0) (n := g) (m := m) (v := beatV (mT M) (mSt M) (mAm M) (M 8) a0 g b0 m) k0 (by omega) i0 rfl (by omega) hcc]; exact (if_neg (by omega)).symm) | (rw [slL_f (T := mT M) (St := mSt M) (Am := mAm M) (h := M 8) (a := a0) (b := b0) (n := g) (m := m) (v := beatV (mT M) (mSt M) (mAm M) (M 8) a0 g b0 m) k0 (by omega) i0 rfl hcf]; exact hlv)) _ (lv_sub hl [0, 6, 2, 3, 1, 7, 8, 9, 10] rfl)
                      · -- 75 f
                        have hcc : (slL (mT M) (mSt M) (mAm M) (M 8) a0 b0 ((g - 1) * 12 + (m - 1))).1 = 0 ∨ beatV (mT M) (mSt M) (mAm M) (M 8) a0 g b0 m < (slL (mT M) (mSt M) (mAm M) (M 8) a0 b0 ((g - 1) * 12 + (m - 1))).1 := Or.inr (Nat.lt_of_not_le (fun q => c22 ((sl_le hsb.1 (by omega) hlv hz).mpr q)))
                        refine lv_iconst (v := nI 1) hx hb dX7_slowest_78 (by decide) ?_
                        refine lv_goto (tgt := 83) hx hb dX7_slowest_79 (by decide) ?_
                        refine lv_istore (lv' := [(10, .int (nI 1)), (9, .int (nI (beatV (mT M) (mSt M) (mAm M) (M 8) a0 g b0 m))), (8, .int (nI m)), (7, .int (nI g)), (6, .int (nI ((slL (mT M) (mSt M) (mAm M) (M 8) a0 b0 ((g - 1) * 12 + (m - 1))).2.2))), (5, .int (nI ((slL (mT M) (mSt M) (mAm M) (M 8) a0 b0 ((g - 1) * 12 + (m - 1))).2.1))), (4, .int lv), (0, .ref x), (1, .int (nI a0)), (2, .int (nI b0)), (3, .int w)]) hx hb dX7_slowest_83 hl (by decide) rfl (fun ls hl => ?_)
                        refine lv_iload hx hb dX7_slowest_85 (lv_at hl 0 rfl) ?_
                        refine lv_if_eq (tgt := 95) hx hb dX7_slowest_87 (by decide) (fun c => absurd c (by decide)) (fun _ => ?_)
                        refine lv_iload hx hb dX7_slowest_90 (lv_at hl 3 rfl) ?_
                        refine lv_goto (tgt := 97) hx hb dX7_slowest_92 (by decide) ?_
                        refine lv_istore (lv' := [(5, .int (nI g)), (10, .int (nI 1)), (9, .int (nI (beatV (mT M) (mSt M) (mAm M) (M 8) a0 g b0 m))), (8, .int (nI m)), (7, .int (nI g)), (6, .int (nI ((slL (mT M) (mSt M) (mAm M) (M 8) a0 b0 ((g - 1) * 12 + (m - 1))).2.2))), (4, .int lv), (0, .ref x), (1, .int (nI a0)), (2, .int (nI b0)), (3, .int w)]) hx hb dX7_slowest_97 hl (by decide) rfl (fun ls hl => ?_)
                        refine lv_iload hx hb dX7_slowest_99 (lv_at hl 1 rfl) ?_
                        refine lv_if_eq (tgt := 109) hx hb dX7_slowest_101 (by decide) (fun c => absurd c (by decide)) (fun _ => ?_)
                        refine lv_iload hx hb dX7_slowest_104 (lv_at hl 3 rfl) ?_
                        refine lv_goto (tgt := 111) hx hb dX7_slowest_106 (by decide) ?_
                        refine lv_istore (lv' := [(6, .int (nI m)), (5, .int (nI g)), (10, .int (nI 1)), (9, .int (nI (beatV (mT M) (mSt M) (mAm M) (M 8) a0 g b0 m))), (8, .int (nI m)), (7, .int (nI g)), (4, .int lv), (0, .ref x), (1, .int (nI a0)), (2, .int (nI b0)), (3, .int w)]) hx hb dX7_slowest_111 hl (by decide) rfl (fun ls hl => ?_)
                        refine lv_iload hx hb dX7_slowest_113 (lv_at hl 2 rfl) ?_
                        refine lv_if_eq (tgt := 123) hx hb dX7_slowest_115 (by decide) (fun c => absurd c (by decide)) (fun _ => ?_)
                        refine lv_iload hx hb dX7_slowest_118 (lv_at hl 3 rfl) ?_
                        refine lv_goto (tgt := 125) hx hb dX7_slowest_120 (by decide) ?_
                        refine lv_istore (lv' := [(4, .int (nI (beatV (mT M) (mSt M) (mAm M) (M 8) a0 g b0 m))), (6, .int (nI m)), (5, .int (nI g)), (10, .int (nI 1)), (9, .int (nI (beatV (mT M) (mSt M) (mAm M) (M 8) a0 g b0 m))), (8, .int (nI m)), (7, .int (nI g)), (0, .ref x), (1, .int (nI a0)), (2, .int (nI b0)), (3, .int w)]) hx hb dX7_slowest_125 hl (by decide) rfl (fun ls hl => ?_)
                        refine z_iinc (k := 5) (d := 1) (lv' := [(8, .int (nI (m + 1))), (4, .int (nI (beatV (mT M) (mSt M) (mAm M) (M 8) a0 g b0 m))), (6, .int (nI m)), (5, .int (nI g)), (10, .int (nI 1)), (9, .int (nI (beatV (mT M) (mSt M) (mAm M) (M 8) a0 g b0 m))), (7, .int (nI g)), (0, .ref x), (1, .int (nI a0)), (2, .int (nI b0)), (3, .int w)]) hx hb dX7_slowest_127 (by decide) hl rfl (by decide) rfl (fun ls hl => ?_)
                        refine lv_goto (tgt := 42) hx hb dX7_slowest_130 (by decide) ?_
                        have e25 : nI m = nI ((slL (mT M) (mSt M) (mAm M) (M 8) a0 b0 ((g - 1) * 12 + ((m + 1) - 1))).2.2) := by first | rw [slL_t (T := mT M) (St := mSt M) (Am := mAm M) (h := M 8) (a := a0) (b := b0) (n := g) (m := m) (v := beatV (mT M) (mSt M) (mAm M) (M 8) a0 g b0 m) k0 (by omega) i0 rfl (by omega) hcc] | rw [slL_f (T := mT M) (St := mSt M) (Am := mAm M) (h := M 8) (a := a0) (b := b0) (n := g) (m := m) (v := beatV (mT M) (mSt M) (mAm M) (M 8) a0 g b0 m) k0 (by omega) i0 rfl hcf]
                        have hl : lv_has ls 11 [(8, .int (nI (m + 1))), (4, .int (nI (beatV (mT M) (mSt M) (mAm M) (M 8) a0 g b0 m))), (6, .int (nI ((slL (mT M) (mSt M) (mAm M) (M 8) a0 b0 ((g - 1) * 12 + ((m + 1) - 1))).2.2))), (5, .int (nI g)), (10, .int (nI 1)), (9, .int (nI (beatV (mT M) (mSt M) (mAm M) (M 8) a0 g b0 m))), (7, .int (nI g)), (0, .ref x), (1, .int (nI a0)), (2, .int (nI b0)), (3, .int w)] := Eq.subst (motive := fun XX : Int32 => lv_has ls 11 [(8, .int (nI (m + 1))), (4, .int (nI (beatV (mT M) (mSt M) (mAm M) (M 8) a0 g b0 m))), (6, .int XX), (5, .int (nI g)), (10, .int (nI 1)), (9, .int (nI (beatV (mT M) (mSt M) (mAm M) (M 8) a0 g b0 m))), (7, .int (nI g)), (0, .ref x), (1, .int (nI a0)), (2, .int (nI b0)), (3, .int w)]) e25 hl
                        have e26 : nI g = nI ((slL (mT M) (mSt M) (mAm M) (M 8) a0 b0 ((g - 1) * 12 + ((m + 1) - 1))).2.1) := by first | rw [slL_t (T := mT M) (St := mSt M) (Am := mAm M) (h := M 8) (a := a0) (b := b0) (n := g) (m := m) (v := beatV (mT M) (mSt M) (mAm M) (M 8) a0 g b0 m) k0 (by omega) i0 rfl (by omega) hcc] | rw [slL_f (T := mT M) (St := mSt M) (Am := mAm M) (h := M 8) (a := a0) (b := b0) (n := g) (m := m) (v := beatV (mT M) (mSt M) (mAm M) (M 8) a0 g b0 m) k0 (by omega) i0 rfl hcf]
                        have hl : lv_has ls 11 [(8, .int (nI (m + 1))), (4, .int (nI (beatV (mT M) (mSt M) (mAm M) (M 8) a0 g b0 m))), (6, .int (nI ((slL (mT M) (mSt M) (mAm M) (M 8) a0 b0 ((g - 1) * 12 + ((m + 1) - 1))).2.2))), (5, .int (nI ((slL (mT M) (mSt M) (mAm M) (M 8) a0 b0 ((g - 1) * 12 + ((m + 1) - 1))).2.1))), (10, .int (nI 1)), (9, .int (nI (beatV (mT M) (mSt M) (mAm M) (M 8) a0 g b0 m))), (7, .int (nI g)), (0, .ref x), (1, .int (nI a0)), (2, .int (nI b0)), (3, .int w)] := Eq.subst (motive := fun XX : Int32 => lv_has ls 11 [(8, .int (nI (m + 1))), (4, .int (nI (beatV (mT M) (mSt M) (mAm M) (M 8) a0 g b0 m))), (6, .int (nI ((slL (mT M) (mSt M) (mAm M) (M 8) a0 b0 ((g - 1) * 12 + ((m + 1) - 1))).2.2))), (5, .int XX), (10, .int (nI 1)), (9, .int (nI (beatV (mT M) (mSt M) (mAm M) (M 8) a0 g b0 m))), (7, .int (nI g)), (0, .ref x), (1, .int (nI a0)), (2, .int (nI b0)), (3, .int w)]) e26 hl
                        exact ih42 (m + 1) (nI (beatV (mT M) (mSt M) (mAm M) (M 8) a0 g b0 m)) (by omega) (by omega) (by omega) (by first | (rw [slL_t (T := mT M) (St := mSt M) (Am := mAm M) (h := M 8) (a := a0) (b := b0) (n := g) (m := m) (v := beatV (mT M) (mSt M) (mAm M) (M 8) a0 g b0 m) k0 (by omega) i0 rfl (by omega) hcc]; exact (if_neg (by omega)).symm) | (rw [slL_f (T := mT M) (St := mSt M) (Am := mAm M) (h := M 8) (a := a0) (b := b0) (n := g) (m := m) (v := beatV (mT M) (mSt M) (mAm M) (M 8) a0 g b0 m) k0 (by omega) i0 rfl hcf]; exact hlv)) _ (lv_sub hl [0, 6, 2, 3, 1, 7, 8, 9, 10] rfl)
            have e27 : nI ((slL (mT M) (mSt M) (mAm M) (M 8) a0 b0 ((g - 1) * 12)).2.2) = nI ((slL (mT M) (mSt M) (mAm M) (M 8) a0 b0 ((g - 1) * 12 + (1 - 1))).2.2) := by rw [Nat.sub_self, Nat.add_zero]
            have hl : lv_has ls 11 [(8, .int (nI 1)), (7, .int (nI g)), (6, .int (nI ((slL (mT M) (mSt M) (mAm M) (M 8) a0 b0 ((g - 1) * 12 + (1 - 1))).2.2))), (5, .int (nI ((slL (mT M) (mSt M) (mAm M) (M 8) a0 b0 ((g - 1) * 12)).2.1))), (4, .int lv), (0, .ref x), (1, .int (nI a0)), (2, .int (nI b0)), (3, .int w)] := Eq.subst (motive := fun XX : Int32 => lv_has ls 11 [(8, .int (nI 1)), (7, .int (nI g)), (6, .int XX), (5, .int (nI ((slL (mT M) (mSt M) (mAm M) (M 8) a0 b0 ((g - 1) * 12)).2.1))), (4, .int lv), (0, .ref x), (1, .int (nI a0)), (2, .int (nI b0)), (3, .int w)]) e27 hl
            have e28 : nI ((slL (mT M) (mSt M) (mAm M) (M 8) a0 b0 ((g - 1) * 12)).2.1) = nI ((slL (mT M) (mSt M) (mAm M) (M 8) a0 b0 ((g - 1) * 12 + (1 - 1))).2.1) := by rw [Nat.sub_self, Nat.add_zero]
            have hl : lv_has ls 11 [(8, .int (nI 1)), (7, .int (nI g)), (6, .int (nI ((slL (mT M) (mSt M) (mAm M) (M 8) a0 b0 ((g - 1) * 12 + (1 - 1))).2.2))), (5, .int (nI ((slL (mT M) (mSt M) (mAm M) (M 8) a0 b0 ((g - 1) * 12 + (1 - 1))).2.1))), (4, .int lv), (0, .ref x), (1, .int (nI a0)), (2, .int (nI b0)), (3, .int w)] := Eq.subst (motive := fun XX : Int32 => lv_has ls 11 [(8, .int (nI 1)), (7, .int (nI g)), (6, .int (nI ((slL (mT M) (mSt M) (mAm M) (M 8) a0 b0 ((g - 1) * 12 + (1 - 1))).2.2))), (5, .int XX), (4, .int lv), (0, .ref x), (1, .int (nI a0)), (2, .int (nI b0)), (3, .int w)]) e28 hl
            exact L42_10 ((13 - 1) + 1) 1 lv (Nat.lt_succ_self _) (by omega) (by omega) (by rw [Nat.sub_self, Nat.add_zero]; exact hlv) _ (lv_sub hl [0, 1, 2, 3, 4, 5, 6, 7, 8] rfl)
      have e29 : nI 0 = nI ((slL (mT M) (mSt M) (mAm M) (M 8) a0 b0 ((1 - 1) * 12)).2.2) := by rw [show (1 - 1) * 12 = 0 by omega]; rfl
      have hl : lv_has ls 11 [(7, .int (nI 1)), (6, .int (nI ((slL (mT M) (mSt M) (mAm M) (M 8) a0 b0 ((1 - 1) * 12)).2.2))), (5, .int (nI 0)), (4, .int (-4)), (0, .ref x), (1, .int (nI a0)), (2, .int (nI b0)), (3, .int w)] := Eq.subst (motive := fun XX : Int32 => lv_has ls 11 [(7, .int (nI 1)), (6, .int XX), (5, .int (nI 0)), (4, .int (-4)), (0, .ref x), (1, .int (nI a0)), (2, .int (nI b0)), (3, .int w)]) e29 hl
      have e30 : nI 0 = nI ((slL (mT M) (mSt M) (mAm M) (M 8) a0 b0 ((1 - 1) * 12)).2.1) := by rw [show (1 - 1) * 12 = 0 by omega]; rfl
      have hl : lv_has ls 11 [(7, .int (nI 1)), (6, .int (nI ((slL (mT M) (mSt M) (mAm M) (M 8) a0 b0 ((1 - 1) * 12)).2.2))), (5, .int (nI ((slL (mT M) (mSt M) (mAm M) (M 8) a0 b0 ((1 - 1) * 12)).2.1))), (4, .int (-4)), (0, .ref x), (1, .int (nI a0)), (2, .int (nI b0)), (3, .int w)] := Eq.subst (motive := fun XX : Int32 => lv_has ls 11 [(7, .int (nI 1)), (6, .int (nI ((slL (mT M) (mSt M) (mAm M) (M 8) a0 b0 ((1 - 1) * 12)).2.2))), (5, .int XX), (4, .int (-4)), (0, .ref x), (1, .int (nI a0)), (2, .int (nI b0)), (3, .int w)]) e30 hl
      exact L32_5 ((13 - 1) + 1) 1 (-4) (Nat.lt_succ_self _) (by omega) (by omega) (by rw [show (1 - 1) * 12 = 0 by omega]; rfl) _ (lv_sub hl [0, 1, 2, 3, 4, 5, 6, 7] rfl)
    · -- 11 f
      refine lv_if_ne (tgt := 19) hx hb dX7_slowest_14 (by decide) (fun c => absurd c (by decide)) (fun _ => ?_)
      refine lv_iconst (v := (-1)) hx hb dX7_slowest_17 (by decide) ?_
      exact hret _ _ _ dX7_slowest_18 (Or.inl ⟨rfl, by first | exact fun q => absurd q.1 (by assumption) | exact fun q => absurd q.2 (by assumption)⟩)
  · -- 2 f
    refine lv_if_eq (tgt := 17) hx hb dX7_slowest_5 (by decide) (fun _ => ?_) (fun c => absurd c (by decide))
    refine lv_iconst (v := (-1)) hx hb dX7_slowest_17 (by decide) ?_
    exact hret _ _ _ dX7_slowest_18 (Or.inl ⟨rfl, by first | exact fun q => absurd q.1 (by assumption) | exact fun q => absurd q.2 (by assumption)⟩)
