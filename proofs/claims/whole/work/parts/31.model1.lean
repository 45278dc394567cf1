set_option maxHeartbeats 1000000 in
set_option maxRecDepth 100000 in
theorem c_X7_in (l : Launch) (E : zE) (v a b : Int32)  : zR l yX7_in wsX7_in ({ frames := 0, cells := 0, slots := 0, locals := 0 }) E [.int v, .int a, .int b] [] (fun r => (r = nI 1 ∧ (a ≤ v ∧ v ≤ b)) ∨ (r = nI 0 ∧ ¬ (a ≤ v ∧ v ≤ b))) := by
  refine zR.start (own := RX7) rfl (by decide +kernel) rfl (Nat.le_of_ble_eq_true rfl) (z_nar) ?_
  intro pZ eZ sZ mZ argsZ belowZ methZ cZ QZ hF hret hP hG ls hl
  obtain ⟨hx, hb, hml, hown, hts⟩ := id hF
  have hl : lv_has ls 3 [(0, .int v), (1, .int a), (2, .int b)] := hl
  refine lv_iload_n hx hb dX7_in_0 rfl (lv_at hl 0 rfl) ?_
  refine lv_iload_n hx hb dX7_in_1 rfl (lv_at hl 1 rfl) ?_
  refine lv_icmp_lt (tgt := 14) hx hb dX7_in_2 (by decide) (fun c1 => ?_) (fun c1 => ?_)
  · -- 2 t
    refine lv_iconst (v := nI 0) hx hb dX7_in_14 (by decide) ?_
    exact hret _ _ _ dX7_in_15 (Or.inr ⟨rfl, by first | exact ⟨Int32.not_lt.mp ‹¬ v < a›, Int32.not_lt.mp ‹¬ b < v›⟩ | exact fun q => Int32.not_lt.mpr q.1 ‹v < a› | exact fun q => Int32.not_lt.mpr q.2 ‹b < v›⟩)
  · -- 2 f
    refine lv_iload_n hx hb dX7_in_5 rfl (lv_at hl 0 rfl) ?_
    refine lv_iload_n hx hb dX7_in_6 rfl (lv_at hl 2 rfl) ?_
    refine lv_icmp_gt (tgt := 14) hx hb dX7_in_7 (by decide) (fun c2 => ?_) (fun c2 => ?_)
    · -- 7 t
      refine lv_iconst (v := nI 0) hx hb dX7_in_14 (by decide) ?_
      exact hret _ _ _ dX7_in_15 (Or.inr ⟨rfl, by first | exact ⟨Int32.not_lt.mp ‹¬ v < a›, Int32.not_lt.mp ‹¬ b < v›⟩ | exact fun q => Int32.not_lt.mpr q.1 ‹v < a› | exact fun q => Int32.not_lt.mpr q.2 ‹b < v›⟩)
    · -- 7 f
      refine lv_iconst (v := nI 1) hx hb dX7_in_10 (by decide) ?_
      refine lv_goto (tgt := 15) hx hb dX7_in_11 (by decide) ?_
      exact hret _ _ _ dX7_in_15 (Or.inl ⟨rfl, by first | exact ⟨Int32.not_lt.mp ‹¬ v < a›, Int32.not_lt.mp ‹¬ b < v›⟩ | exact fun q => Int32.not_lt.mpr q.1 ‹v < a› | exact fun q => Int32.not_lt.mpr q.2 ‹b < v›⟩)
set_option maxHeartbeats 1000000 in
set_option maxRecDepth 100000 in
theorem c_X7_isString (l : Launch) (E : zE) (v : Int32)  : zR l yX7_isString wsX7_isString ({ frames := 1, cells := 0, slots := 0, locals := 22 }) E [.int v] [] (fun r => (r = nI 1 ∧ (nI 0 ≤ v ∧ v ≤ nI 3)) ∨ (r = nI 0 ∧ ¬ (nI 0 ≤ v ∧ v ≤ nI 3))) := by
  refine zR.start (own := RX7) rfl (by decide +kernel) rfl (Nat.le_of_ble_eq_true rfl) (z_nar) ?_
  intro pZ eZ sZ mZ argsZ belowZ methZ cZ QZ hF hret hP hG ls hl
  obtain ⟨hx, hb, hml, hown, hts⟩ := id hF
  have hl : lv_has ls 1 [(0, .int v)] := hl
  refine lv_iload_n hx hb dX7_isString_0 rfl (lv_at hl 0 rfl) ?_
  refine lv_iconst (v := nI 0) hx hb dX7_isString_1 (by decide) ?_
  refine lv_iconst (v := nI 3) hx hb dX7_isString_2 (by decide) ?_
  refine z_rd (fun _ h => h) (va_runS (As := [.int v, .int (nI 0), .int (nI 3)]) (rest := []) hF (c_X7_in l E v (nI 0) (nI 3) ) (va_cwS 3 hts gX7_isString_X7_in rfl rfl rfl (by decide +kernel) ⟨Nat.le_of_ble_eq_true rfl, Nat.le_of_ble_eq_true rfl⟩) (z_preR (fun k q h => by simp at h) hG) rfl rfl hl.1 rfl (lv_room (Nat.le_of_ble_eq_true rfl)) dX7_isString_3 ⟨Nat.zero_le _, Nat.zero_le _⟩) (fun r1 hr1 => ?_)
  rcases hr1 with ⟨rfl, c2⟩ | ⟨rfl, c2⟩
  · -- 3 t
    exact hret _ _ _ dX7_isString_6 (Or.inl ⟨rfl, by assumption⟩)
  · -- 3 f
    exact hret _ _ _ dX7_isString_6 (Or.inr ⟨rfl, by assumption⟩)
set_option maxHeartbeats 1000000 in
set_option maxRecDepth 100000 in
theorem c_X7_isMode (l : Launch) (E : zE) (v : Int32)  : zR l yX7_isMode wsX7_isMode ({ frames := 1, cells := 0, slots := 0, locals := 22 }) E [.int v] [] (fun r => (r = nI 1 ∧ (nI 1 ≤ v ∧ v ≤ nI 12)) ∨ (r = nI 0 ∧ ¬ (nI 1 ≤ v ∧ v ≤ nI 12))) := by
  refine zR.start (own := RX7) rfl (by decide +kernel) rfl (Nat.le_of_ble_eq_true rfl) (z_nar) ?_
  intro pZ eZ sZ mZ argsZ belowZ methZ cZ QZ hF hret hP hG ls hl
  obtain ⟨hx, hb, hml, hown, hts⟩ := id hF
  have hl : lv_has ls 1 [(0, .int v)] := hl
  refine lv_iload_n hx hb dX7_isMode_0 rfl (lv_at hl 0 rfl) ?_
  refine lv_iconst (v := nI 1) hx hb dX7_isMode_1 (by decide) ?_
  refine lv_bipush (v := nI 12) hx hb dX7_isMode_2 (by decide) ?_
  refine z_rd (fun _ h => h) (va_runS (As := [.int v, .int (nI 1), .int (nI 12)]) (rest := []) hF (c_X7_in l E v (nI 1) (nI 12) ) (va_cwS 3 hts gX7_isMode_X7_in rfl rfl rfl (by decide +kernel) ⟨Nat.le_of_ble_eq_true rfl, Nat.le_of_ble_eq_true rfl⟩) (z_preR (fun k q h => by simp at h) hG) rfl rfl hl.1 rfl (lv_room (Nat.le_of_ble_eq_true rfl)) dX7_isMode_4 ⟨Nat.zero_le _, Nat.zero_le _⟩) (fun r1 hr1 => ?_)
  rcases hr1 with ⟨rfl, c2⟩ | ⟨rfl, c2⟩
  · -- 4 t
    exact hret _ _ _ dX7_isMode_7 (Or.inl ⟨rfl, by assumption⟩)
  · -- 4 f
    exact hret _ _ _ dX7_isMode_7 (Or.inr ⟨rfl, by assumption⟩)
theorem iwX7_of_X7_c_X7_of : ∀ w ∈ wsX70, w ∈ wsX7_of := by decide +kernel
set_option maxHeartbeats 1000000 in
set_option maxRecDepth 100000 in
theorem c_X7_of (l : Launch) (E : zE) (x ms mp mt md pz len sp fm s w : Nat) (q1 q2 q3 q4 q5 : Int32) (M : Nat → Nat) (hs : s < 4) (hw : w < 4) : zR l yX7_of wsX7_of ({ frames := 0, cells := 0, slots := 0, locals := 0 }) E [.ref x, .int (nI s), .int (nI w)] [(x, .inr (7, [.ref ms, .ref mp, .int (nI pz), .ref mt, .int (nI len), .ref md, .int (nI sp), .int q1, .int q2, .int q3, .int q4, .int q5, .int (nI fm)])), (ms, .inl (E.2.1, 265, .inl (fun zz => nI (M zz))))] (fun r => r = nI (M (45 + 4 * s + w))) := by
  refine zR.start (own := RX7) rfl (by decide +kernel) rfl (Nat.le_of_ble_eq_true rfl) (fun _ _ => rfl) ?_
  intro pZ eZ sZ mZ argsZ belowZ methZ cZ QZ hF hret hP hG ls hl
  obtain ⟨hx, hb, hml, hown, hts⟩ := id hF
  have hl : lv_has ls 3 [(0, .ref x), (1, .int (nI s)), (2, .int (nI w))] := hl
  refine lv_aload_n hx hb dX7_of_0 rfl (lv_at hl 0 rfl) ?_
  refine va_get (D := E.1) (ci := 7) (v := .ref ms) (C := RX7) (T := TX7) (N := 13) hx hb hts iwX7_of_X7_c_X7_of hown hG.1 hP 0 rfl rfl 0 (by decide) (hts (.fieldLink RX7 7 "FrettedStringsModel" "st" "[I") (by decide +kernel)) (fun _ h9 => h9) rfl dX7_of_1 ?_
  refine lv_bipush (v := nI 45) hx hb dX7_of_4 (by decide) ?_
  refine lv_iconst (v := nI 4) hx hb dX7_of_6 (by decide) ?_
  refine lv_iload_n hx hb dX7_of_7 rfl (lv_at hl 1 rfl) ?_
  refine z_imul (a := 4) (b := s) hx hb dX7_of_8 ?_
  refine z_iadd (a := 45) (b := 4 * s) hx hb dX7_of_9 ?_
  refine lv_iload_n hx hb dX7_of_10 rfl (lv_at hl 2 rfl) ?_
  refine z_iadd (a := 45 + (4 * s)) (b := w) hx hb dX7_of_11 ?_
  refine z_iald (j := (45 + (4 * s)) + w) (v := M ((45 + (4 * s)) + w)) hx hb hG hP 1 rfl (by omega) (by decide) (rfl) dX7_of_12 ?_
  exact hret _ _ _ dX7_of_13 (by first | rfl | (congr 1; omega))
theorem iwX7_puts_X7_c_X7_puts : ∀ w ∈ wsX70, w ∈ wsX7_puts := by decide +kernel
set_option maxHeartbeats 1000000 in
set_option maxRecDepth 100000 in
theorem c_X7_puts (l : Launch) (E : zE) (x ms mp mt md pz len sp fm s w v : Nat) (q1 q2 q3 q4 q5 : Int32) (M : Nat → Nat) (hs : s < 4) (hw : w < 4) : zV l yX7_puts wsX7_puts ({ frames := 0, cells := 0, slots := 0, locals := 0 }) E [.ref x, .int (nI s), .int (nI w), .int (nI v)] [(x, .inr (7, [.ref ms, .ref mp, .int (nI pz), .ref mt, .int (nI len), .ref md, .int (nI sp), .int q1, .int q2, .int q3, .int q4, .int q5, .int (nI fm)])), (ms, .inl (E.2.1, 265, .inl (fun zz => nI (M zz))))] (fun w' => w' = [(x, .inr (7, [.ref ms, .ref mp, .int (nI pz), .ref mt, .int (nI len), .ref md, .int (nI sp), .int q1, .int q2, .int q3, .int q4, .int q5, .int (nI fm)])), (ms, .inl (E.2.1, 265, .inl (fun zz => nI ((va_up M (45 + 4 * s + w) v) zz))))]) := by
  refine zV.start (own := RX7) rfl (by decide +kernel) rfl (Nat.le_of_ble_eq_true rfl) ?_
  intro pZ eZ sZ mZ argsZ belowZ methZ cZ QZ AZ hF hret HZ locsZ hP hD hS hG ls hl
  obtain ⟨hx, hb, hml, hown, hts⟩ := id hF
  have hl : lv_has ls 4 [(0, .ref x), (1, .int (nI s)), (2, .int (nI w)), (3, .int (nI v))] := hl
  refine lv_aload_n hx hb dX7_puts_0 rfl (lv_at hl 0 rfl) ?_
  refine va_get (D := E.1) (ci := 7) (v := .ref ms) (C := RX7) (T := TX7) (N := 13) hx hb hts iwX7_puts_X7_c_X7_puts hown hG.1 hP 0 rfl rfl 0 (by decide) (hts (.fieldLink RX7 7 "FrettedStringsModel" "st" "[I") (by decide +kernel)) (fun _ h9 => h9) rfl dX7_puts_1 ?_
  refine lv_bipush (v := nI 45) hx hb dX7_puts_4 (by decide) ?_
  refine lv_iconst (v := nI 4) hx hb dX7_puts_6 (by decide) ?_
  refine lv_iload_n hx hb dX7_puts_7 rfl (lv_at hl 1 rfl) ?_
  refine z_imul (a := 4) (b := s) hx hb dX7_puts_8 ?_
  refine z_iadd (a := 45) (b := 4 * s) hx hb dX7_puts_9 ?_
  refine lv_iload_n hx hb dX7_puts_10 rfl (lv_at hl 2 rfl) ?_
  refine z_iadd (a := 45 + (4 * s)) (b := w) hx hb dX7_puts_11 ?_
  refine lv_iload_n hx hb dX7_puts_12 rfl (lv_at hl 3 rfl) ?_
  refine z_iast (j := (45 + (4 * s)) + w) (v := v) (g := va_up M ((45 + (4 * s)) + w) v) hx hb hG hP hD hS 1 rfl (by omega) (by decide) (rfl) dX7_puts_13 (fun HZ locsZ hP hD hS => ?_)
  have hP : va_P E.1 vwCl [(x, .inr (7, [.ref ms, .ref mp, .int (nI pz), .ref mt, .int (nI len), .ref md, .int (nI sp), .int q1, .int q2, .int q3, .int q4, .int q5, .int (nI fm)])), (ms, .inl (E.2.1, 265, .inl (fun zz => nI ((va_up M ((45 + (4 * s)) + w) v) zz))))] _ := hP
  have hD : va_D AZ [(x, .inr (7, [.ref ms, .ref mp, .int (nI pz), .ref mt, .int (nI len), .ref md, .int (nI sp), .int q1, .int q2, .int q3, .int q4, .int q5, .int (nI fm)])), (ms, .inl (E.2.1, 265, .inl (fun zz => nI ((va_up M ((45 + (4 * s)) + w) v) zz))))] := hD
  exact hret _ _ _ _ _ hP hS dX7_puts_14 rfl rfl
theorem iwX7_on_X7_c_X7_on : ∀ w ∈ wsX70, w ∈ wsX7_on := by decide +kernel
set_option maxHeartbeats 1000000 in
set_option maxRecDepth 100000 in
theorem c_X7_on (l : Launch) (E : zE) (x ms mp mt md pz len sp fm f w : Nat) (q1 q2 q3 q4 q5 : Int32) (M : Nat → Nat) (hf1 : 1 ≤ f) (hf2 : f ≤ 12) (hw : w < 3) : zR l yX7_on wsX7_on ({ frames := 0, cells := 0, slots := 0, locals := 0 }) E [.ref x, .int (nI f), .int (nI w)] [(x, .inr (7, [.ref ms, .ref mp, .int (nI pz), .ref mt, .int (nI len), .ref md, .int (nI sp), .int q1, .int q2, .int q3, .int q4, .int q5, .int (nI fm)])), (ms, .inl (E.2.1, 265, .inl (fun zz => nI (M zz))))] (fun r => r = nI (M (9 + 3 * (f - 1) + w))) := by
  refine zR.start (own := RX7) rfl (by decide +kernel) rfl (Nat.le_of_ble_eq_true rfl) (fun _ _ => rfl) ?_
  intro pZ eZ sZ mZ argsZ belowZ methZ cZ QZ hF hret hP hG ls hl
  obtain ⟨hx, hb, hml, hown, hts⟩ := id hF
  have hl : lv_has ls 3 [(0, .ref x), (1, .int (nI f)), (2, .int (nI w))] := hl
  refine lv_aload_n hx hb dX7_on_0 rfl (lv_at hl 0 rfl) ?_
  refine va_get (D := E.1) (ci := 7) (v := .ref ms) (C := RX7) (T := TX7) (N := 13) hx hb hts iwX7_on_X7_c_X7_on hown hG.1 hP 0 rfl rfl 0 (by decide) (hts (.fieldLink RX7 7 "FrettedStringsModel" "st" "[I") (by decide +kernel)) (fun _ h9 => h9) rfl dX7_on_1 ?_
  refine lv_bipush (v := nI 9) hx hb dX7_on_4 (by decide) ?_
  refine lv_iconst (v := nI 3) hx hb dX7_on_6 (by decide) ?_
  refine lv_iload_n hx hb dX7_on_7 rfl (lv_at hl 1 rfl) ?_
  refine lv_iconst (v := nI 1) hx hb dX7_on_8 (by decide) ?_
  refine z_isub (a := f) (b := 1) hx hb dX7_on_9 (by omega) ?_
  refine z_imul (a := 3) (b := f - 1) hx hb dX7_on_10 ?_
  refine z_iadd (a := 9) (b := 3 * (f - 1)) hx hb dX7_on_11 ?_
  refine lv_iload_n hx hb dX7_on_12 rfl (lv_at hl 2 rfl) ?_
  refine z_iadd (a := 9 + (3 * (f - 1))) (b := w) hx hb dX7_on_13 ?_
  refine z_iald (j := (9 + (3 * (f - 1))) + w) (v := M ((9 + (3 * (f - 1))) + w)) hx hb hG hP 1 rfl (by omega) (by decide) (rfl) dX7_on_14 ?_
  exact hret _ _ _ dX7_on_15 (by first | rfl | (congr 1; omega))
theorem iwX7_lays_X7_c_X7_lays : ∀ w ∈ wsX70, w ∈ wsX7_lays := by decide +kernel
set_option maxHeartbeats 1000000 in
set_option maxRecDepth 100000 in
theorem c_X7_lays (l : Launch) (E : zE) (x ms mp mt md pz len sp fm f w v : Nat) (q1 q2 q3 q4 q5 : Int32) (M : Nat → Nat) (hf1 : 1 ≤ f) (hf2 : f ≤ 12) (hw : w < 3) : zV l yX7_lays wsX7_lays ({ frames := 0, cells := 0, slots := 0, locals := 0 }) E [.ref x, .int (nI f), .int (nI w), .int (nI v)] [(x, .inr (7, [.ref ms, .ref mp, .int (nI pz), .ref mt, .int (nI len), .ref md, .int (nI sp), .int q1, .int q2, .int q3, .int q4, .int q5, .int (nI fm)])), (ms, .inl (E.2.1, 265, .inl (fun zz => nI (M zz))))] (fun w' => w' = [(x, .inr (7, [.ref ms, .ref mp, .int (nI pz), .ref mt, .int (nI len), .ref md, .int (nI sp), .int q1, .int q2, .int q3, .int q4, .int q5, .int (nI fm)])), (ms, .inl (E.2.1, 265, .inl (fun zz => nI ((va_up M (9 + 3 * (f - 1) + w) v) zz))))]) := by
  refine zV.start (own := RX7) rfl (by decide +kernel) rfl (Nat.le_of_ble_eq_true rfl) ?_
  intro pZ eZ sZ mZ argsZ belowZ methZ cZ QZ AZ hF hret HZ locsZ hP hD hS hG ls hl
  obtain ⟨hx, hb, hml, hown, hts⟩ := id hF
  have hl : lv_has ls 4 [(0, .ref x), (1, .int (nI f)), (2, .int (nI w)), (3, .int (nI v))] := hl
  refine lv_aload_n hx hb dX7_lays_0 rfl (lv_at hl 0 rfl) ?_
  refine va_get (D := E.1) (ci := 7) (v := .ref ms) (C := RX7) (T := TX7) (N := 13) hx hb hts iwX7_lays_X7_c_X7_lays hown hG.1 hP 0 rfl rfl 0 (by decide) (hts (.fieldLink RX7 7 "FrettedStringsModel" "st" "[I") (by decide +kernel)) (fun _ h9 => h9) rfl dX7_lays_1 ?_
  refine lv_bipush (v := nI 9) hx hb dX7_lays_4 (by decide) ?_
  refine lv_iconst (v := nI 3) hx hb dX7_lays_6 (by decide) ?_
  refine lv_iload_n hx hb dX7_lays_7 rfl (lv_at hl 1 rfl) ?_
  refine lv_iconst (v := nI 1) hx hb dX7_lays_8 (by decide) ?_
  refine z_isub (a := f) (b := 1) hx hb dX7_lays_9 (by omega) ?_
  refine z_imul (a := 3) (b := f - 1) hx hb dX7_lays_10 ?_
  refine z_iadd (a := 9) (b := 3 * (f - 1)) hx hb dX7_lays_11 ?_
  refine lv_iload_n hx hb dX7_lays_12 rfl (lv_at hl 2 rfl) ?_
  refine z_iadd (a := 9 + (3 * (f - 1))) (b := w) hx hb dX7_lays_13 ?_
  refine lv_iload_n hx hb dX7_lays_14 rfl (lv_at hl 3 rfl) ?_
  refine z_iast (j := (9 + (3 * (f - 1))) + w) (v := v) (g := va_up M ((9 + (3 * (f - 1))) + w) v) hx hb hG hP hD hS 1 rfl (by omega) (by decide) (rfl) dX7_lays_15 (fun HZ locsZ hP hD hS => ?_)
  have hP : va_P E.1 vwCl [(x, .inr (7, [.ref ms, .ref mp, .int (nI pz), .ref mt, .int (nI len), .ref md, .int (nI sp), .int q1, .int q2, .int q3, .int q4, .int q5, .int (nI fm)])), (ms, .inl (E.2.1, 265, .inl (fun zz => nI ((va_up M ((9 + (3 * (f - 1))) + w) v) zz))))] _ := hP
  have hD : va_D AZ [(x, .inr (7, [.ref ms, .ref mp, .int (nI pz), .ref mt, .int (nI len), .ref md, .int (nI sp), .int q1, .int q2, .int q3, .int q4, .int q5, .int (nI fm)])), (ms, .inl (E.2.1, 265, .inl (fun zz => nI ((va_up M ((9 + (3 * (f - 1))) + w) v) zz))))] := hD
  exact hret _ _ _ _ _ hP hS dX7_lays_16 rfl rfl
theorem iwX7_setting_X7_c_X7_setting : ∀ w ∈ wsX70, w ∈ wsX7_setting := by decide +kernel
set_option maxHeartbeats 1000000 in
set_option maxRecDepth 100000 in
theorem c_X7_setting (l : Launch) (E : zE) (x ms mp mt md pz len sp fm w : Nat) (q1 q2 q3 q4 q5 : Int32) (M : Nat → Nat) (hw : w < 5) : zR l yX7_setting wsX7_setting ({ frames := 0, cells := 0, slots := 0, locals := 0 }) E [.ref x, .int (nI w)] [(x, .inr (7, [.ref ms, .ref mp, .int (nI pz), .ref mt, .int (nI len), .ref md, .int (nI sp), .int q1, .int q2, .int q3, .int q4, .int q5, .int (nI fm)])), (ms, .inl (E.2.1, 265, .inl (fun zz => nI (M zz))))] (fun r => r = nI (M (4 + w))) := by
  refine zR.start (own := RX7) rfl (by decide +kernel) rfl (Nat.le_of_ble_eq_true rfl) (fun _ _ => rfl) ?_
  intro pZ eZ sZ mZ argsZ belowZ methZ cZ QZ hF hret hP hG ls hl
  obtain ⟨hx, hb, hml, hown, hts⟩ := id hF
  have hl : lv_has ls 2 [(0, .ref x), (1, .int (nI w))] := hl
  refine lv_aload_n hx hb dX7_setting_0 rfl (lv_at hl 0 rfl) ?_
  refine va_get (D := E.1) (ci := 7) (v := .ref ms) (C := RX7) (T := TX7) (N := 13) hx hb hts iwX7_setting_X7_c_X7_setting hown hG.1 hP 0 rfl rfl 0 (by decide) (hts (.fieldLink RX7 7 "FrettedStringsModel" "st" "[I") (by decide +kernel)) (fun _ h9 => h9) rfl dX7_setting_1 ?_
  refine lv_iconst (v := nI 4) hx hb dX7_setting_4 (by decide) ?_
  refine lv_iload_n hx hb dX7_setting_5 rfl (lv_at hl 1 rfl) ?_
  refine z_iadd (a := 4) (b := w) hx hb dX7_setting_6 ?_
  refine z_iald (j := 4 + w) (v := M (4 + w)) hx hb hG hP 1 rfl (by omega) (by decide) (rfl) dX7_setting_7 ?_
  exact hret _ _ _ dX7_setting_8 (rfl)
theorem iwX7_isFret_X7_c_X7_isFret : ∀ w ∈ wsX70, w ∈ wsX7_isFret := by decide +kernel
set_option maxHeartbeats 1000000 in
set_option maxRecDepth 100000 in
theorem c_X7_isFret (l : Launch) (E : zE) (x ms mp mt md pz len sp fm : Nat) (q1 q2 q3 q4 q5 v : Int32) (M : Nat → Nat)  : zR l yX7_isFret wsX7_isFret ({ frames := 1, cells := 0, slots := 0, locals := 22 }) E [.ref x, .int v] [(x, .inr (7, [.ref ms, .ref mp, .int (nI pz), .ref mt, .int (nI len), .ref md, .int (nI sp), .int q1, .int q2, .int q3, .int q4, .int q5, .int (nI fm)])), (ms, .inl (E.2.1, 265, .inl (fun zz => nI (M zz))))] (fun r => (r = nI 1 ∧ (nI 1 ≤ v ∧ v ≤ nI (M 0))) ∨ (r = nI 0 ∧ ¬ (nI 1 ≤ v ∧ v ≤ nI (M 0)))) := by
  refine zR.start (own := RX7) rfl (by decide +kernel) rfl (Nat.le_of_ble_eq_true rfl) (z_nar) ?_
  intro pZ eZ sZ mZ argsZ belowZ methZ cZ QZ hF hret hP hG ls hl
  obtain ⟨hx, hb, hml, hown, hts⟩ := id hF
  have hl : lv_has ls 2 [(0, .ref x), (1, .int v)] := hl
  refine lv_iload_n hx hb dX7_isFret_0 rfl (lv_at hl 1 rfl) ?_
  refine lv_iconst (v := nI 1) hx hb dX7_isFret_1 (by decide) ?_
  refine lv_aload_n hx hb dX7_isFret_2 rfl (lv_at hl 0 rfl) ?_
  refine va_get (D := E.1) (ci := 7) (v := .ref ms) (C := RX7) (T := TX7) (N := 13) hx hb hts iwX7_isFret_X7_c_X7_isFret hown hG.1 hP 0 rfl rfl 0 (by decide) (hts (.fieldLink RX7 7 "FrettedStringsModel" "st" "[I") (by decide +kernel)) (fun _ h9 => h9) rfl dX7_isFret_3 ?_
  refine lv_iconst (v := nI 0) hx hb dX7_isFret_6 (by decide) ?_
  refine z_iald (j := 0) (v := M 0) hx hb hG hP 1 rfl (by omega) (by decide) (rfl) dX7_isFret_7 ?_
  refine z_rd (fun _ h => h) (va_runS (As := [.int v, .int (nI 1), .int (nI (M 0))]) (rest := []) hF (c_X7_in l E v (nI 1) (nI (M 0)) ) (va_cwS 3 hts gX7_isFret_X7_in rfl rfl rfl (by decide +kernel) ⟨Nat.le_of_ble_eq_true rfl, Nat.le_of_ble_eq_true rfl⟩) (z_preR (fun k q h => by simp at h) hG) rfl rfl hl.1 rfl (lv_room (Nat.le_of_ble_eq_true rfl)) dX7_isFret_8 ⟨Nat.zero_le _, Nat.zero_le _⟩) (fun r1 hr1 => ?_)
  rcases hr1 with ⟨rfl, c2⟩ | ⟨rfl, c2⟩
  · -- 8 t
    exact hret _ _ _ dX7_isFret_11 (Or.inl ⟨rfl, by assumption⟩)
  · -- 8 f
    exact hret _ _ _ dX7_isFret_11 (Or.inr ⟨rfl, by assumption⟩)
set_option maxHeartbeats 1000000 in
set_option maxRecDepth 100000 in
theorem c_X7_floor (l : Launch) (E : zE) (a b : Int32) (hb0 : 0 < b.toInt) : zR l yX7_floor wsX7_floor ({ frames := 0, cells := 0, slots := 0, locals := 0 }) E [.int a, .int b] [] (fun r => r = Int32.ofInt (a.toInt / b.toInt)) := by
  refine zR.start (own := RX7) rfl (by decide +kernel) rfl (Nat.le_of_ble_eq_true rfl) (fun _ _ => rfl) ?_
  intro pZ eZ sZ mZ argsZ belowZ methZ cZ QZ hF hret hP hG ls hl
  obtain ⟨hx, hb, hml, hown, hts⟩ := id hF
  have hl : lv_has ls 3 [(0, .int a), (1, .int b)] := hl
  refine lv_iload_n hx hb dX7_floor_0 rfl (lv_at hl 0 rfl) ?_
  refine lv_iload_n hx hb dX7_floor_1 rfl (lv_at hl 1 rfl) ?_
  refine lv_idiv hx hb dX7_floor_2 (by intro q; rw [q] at hb0; exact absurd hb0 (by decide)) ?_
  refine lv_topi (fun x1 ex1 => ?_)
  refine lv_istore_n (lv' := [(2, .int x1), (0, .int a), (1, .int b)]) hx hb dX7_floor_3 rfl hl (by decide) rfl (fun ls hl => ?_)
  refine lv_iload_n hx hb dX7_floor_4 rfl (lv_at hl 1 rfl) ?_
  refine lv_iload_n hx hb dX7_floor_5 rfl (lv_at hl 2 rfl) ?_
  refine lv_irem hx hb dX7_floor_6 (by intro q; rw [q] at hb0; exact absurd hb0 (by decide)) ?_
  refine lv_if_ge (tgt := 16) hx hb dX7_floor_7 (by decide) (fun c2 => ?_) (fun c2 => ?_)
  · -- 7 t
    refine lv_iload_n hx hb dX7_floor_16 rfl (lv_at hl 0 rfl) ?_
    exact hret _ _ _ dX7_floor_17 (by subst_vars; first | exact floor_n hb0 (by assumption) | exact floor_p hb0 (by assumption))
  · -- 7 f
    refine lv_iload_n hx hb dX7_floor_10 rfl (lv_at hl 0 rfl) ?_
    refine lv_iconst (v := nI 1) hx hb dX7_floor_11 (by decide) ?_
    refine lv_isub hx hb dX7_floor_12 ?_
    refine lv_goto (tgt := 17) hx hb dX7_floor_13 (by decide) ?_
    exact hret _ _ _ dX7_floor_17 (by subst_vars; first | exact floor_n hb0 (by assumption) | exact floor_p hb0 (by assumption))
set_option maxHeartbeats 1000000 in
set_option maxRecDepth 100000 in
theorem c_X7_lineOf (l : Launch) (E : zE) (x ms mp mt md pz len sp fm f y : Nat) (q1 q2 q3 q4 q5 : Int32) (M : Nat → Nat) (hf1 : 1 ≤ f) (hf2 : f ≤ 12) (hPb : ∀ i, i < 12 → mP M i ≤ 2400) (hHb : ∀ i, i < 12 → mH M i ≤ 2000) (hy : y ≤ 2520) : zR l yX7_lineOf wsX7_lineOf ({ frames := 1, cells := 0, slots := 0, locals := 22 }) E [.ref x, .int (nI f), .int (nI y)] [(x, .inr (7, [.ref ms, .ref mp, .int (nI pz), .ref mt, .int (nI len), .ref md, .int (nI sp), .int q1, .int q2, .int q3, .int q4, .int q5, .int (nI fm)])), (ms, .inl (E.2.1, 265, .inl (fun zz => nI (M zz))))] (fun r => r = Int32.ofInt (lineZ (mH M (f - 1)) (mP M (f - 1)) y)) := by
  refine zR.start (own := RX7) rfl (by decide +kernel) rfl (Nat.le_of_ble_eq_true rfl) (fun _ _ => rfl) ?_
  intro pZ eZ sZ mZ argsZ belowZ methZ cZ QZ hF hret hP hG ls hl
  obtain ⟨hx, hb, hml, hown, hts⟩ := id hF
  have hl : lv_has ls 5 [(0, .ref x), (1, .int (nI f)), (2, .int (nI y))] := hl
  refine lv_aload_n hx hb dX7_lineOf_0 rfl (lv_at hl 0 rfl) ?_
  refine lv_iload_n hx hb dX7_lineOf_1 rfl (lv_at hl 1 rfl) ?_
  refine lv_iconst (v := nI 1) hx hb dX7_lineOf_2 (by decide) ?_
  have hPc := zP_sub (w := [(x, .inr (7, [.ref ms, .ref mp, .int (nI pz), .ref mt, .int (nI len), .ref md, .int (nI sp), .int q1, .int q2, .int q3, .int q4, .int q5, .int (nI fm)])), (ms, .inl (E.2.1, 265, .inl (fun zz => nI (M zz))))]) hP [0, 1] rfl
  refine z_rd (fun _ h => h) (va_runV (As := [.int (nI f), .int (nI 1)]) (rest := []) hF (c_X7_on l E x ms mp mt md pz len sp fm f 1 q1 q2 q3 q4 q5 M (by first | assumption | omega) (by first | assumption | omega) (by first | assumption | omega)) (cwV 2 hts gX7_lineOf_X7_on rfl rfl rfl (by decide +kernel) ⟨Nat.le_of_ble_eq_true rfl, Nat.le_of_ble_eq_true rfl⟩) (z_preRV (va_recv hG.1 hP (ci := 7) (q0 := 0) rfl rfl) hPc hG) rfl rfl hl.1 rfl (lv_room (Nat.le_of_ble_eq_true rfl)) dX7_lineOf_3 ⟨Nat.zero_le _, Nat.zero_le _⟩) (fun r1 hr1 => ?_)
  subst hr1
  refine lv_istore_n (lv' := [(3, .int (nI (M (9 + 3 * (f - 1) + 1)))), (0, .ref x), (1, .int (nI f)), (2, .int (nI y))]) hx hb dX7_lineOf_6 rfl hl (by decide) rfl (fun ls hl => ?_)
  refine lv_aload_n hx hb dX7_lineOf_7 rfl (lv_at hl 1 rfl) ?_
  refine lv_iload_n hx hb dX7_lineOf_8 rfl (lv_at hl 2 rfl) ?_
  refine lv_iconst (v := nI 0) hx hb dX7_lineOf_9 (by decide) ?_
  have hPc := zP_sub (w := [(x, .inr (7, [.ref ms, .ref mp, .int (nI pz), .ref mt, .int (nI len), .ref md, .int (nI sp), .int q1, .int q2, .int q3, .int q4, .int q5, .int (nI fm)])), (ms, .inl (E.2.1, 265, .inl (fun zz => nI (M zz))))]) hP [0, 1] rfl
  refine z_rd (fun _ h => h) (va_runV (As := [.int (nI f), .int (nI 0)]) (rest := []) hF (c_X7_on l E x ms mp mt md pz len sp fm f 0 q1 q2 q3 q4 q5 M (by first | assumption | omega) (by first | assumption | omega) (by first | assumption | omega)) (cwV 2 hts gX7_lineOf_X7_on rfl rfl rfl (by decide +kernel) ⟨Nat.le_of_ble_eq_true rfl, Nat.le_of_ble_eq_true rfl⟩) (z_preRV (va_recv hG.1 hP (ci := 7) (q0 := 0) rfl rfl) hPc hG) rfl rfl hl.1 rfl (lv_room (Nat.le_of_ble_eq_true rfl)) dX7_lineOf_10 ⟨Nat.zero_le _, Nat.zero_le _⟩) (fun r2 hr2 => ?_)
  subst hr2
  refine lv_istore (lv' := [(4, .int (nI (M (9 + 3 * (f - 1) + 0)))), (3, .int (nI (M (9 + 3 * (f - 1) + 1)))), (0, .ref x), (1, .int (nI f)), (2, .int (nI y))]) hx hb dX7_lineOf_13 hl (by decide) rfl (fun ls hl => ?_)
  have hpb : M (9 + 3 * (f - 1) + 0) ≤ 2400 := hPb (f - 1) (by omega)
  have hhb : M (9 + 3 * (f - 1) + 1) ≤ 2000 := hHb (f - 1) (by omega)
  refine lv_iload_n hx hb dX7_lineOf_15 rfl (lv_at hl 1 rfl) ?_
  refine lv_sipush (v := nI 1500) hx hb dX7_lineOf_16 (by decide) ?_
  refine lv_iload_n hx hb dX7_lineOf_19 rfl (lv_at hl 1 rfl) ?_
  refine lv_isub hx hb dX7_lineOf_20 ?_
  refine lv_iload_n hx hb dX7_lineOf_21 rfl (lv_at hl 4 rfl) ?_
  refine lv_iload hx hb dX7_lineOf_22 (lv_at hl 0 rfl) ?_
  refine lv_isub hx hb dX7_lineOf_24 ?_
  refine lv_imul hx hb dX7_lineOf_25 ?_
  refine lv_sipush (v := nI 2520) hx hb dX7_lineOf_26 (by decide) ?_
  refine lv_iload hx hb dX7_lineOf_29 (lv_at hl 0 rfl) ?_
  refine z_isub (a := 2520) (b := M (9 + 3 * (f - 1) + 0)) hx hb dX7_lineOf_31 (by omega) ?_
  refine z_rd (fun _ h => h) (va_runS (As := [.int (((nI 1500) - (nI (M (9 + 3 * (f - 1) + 1)))) * ((nI y) - (nI (M (9 + 3 * (f - 1) + 0))))), .int (nI (2520 - (M (9 + 3 * (f - 1) + 0))))]) (rest := [.int (nI (M (9 + 3 * (f - 1) + 1)))]) hF (c_X7_floor l E (((nI 1500) - (nI (M (9 + 3 * (f - 1) + 1)))) * ((nI y) - (nI (M (9 + 3 * (f - 1) + 0))))) (nI (2520 - (M (9 + 3 * (f - 1) + 0)))) (by rw [nI_toInt (by omega)]; omega)) (va_cwS 2 hts gX7_lineOf_X7_floor rfl rfl rfl (by decide +kernel) ⟨Nat.le_of_ble_eq_true rfl, Nat.le_of_ble_eq_true rfl⟩) (z_preR (fun k q h => by simp at h) hG) rfl rfl hl.1 rfl (lv_room (Nat.le_of_ble_eq_true rfl)) dX7_lineOf_32 ⟨Nat.zero_le _, Nat.zero_le _⟩) (fun r3 hr3 => ?_)
  subst hr3
  refine lv_iadd hx hb dX7_lineOf_35 ?_
  exact hret _ _ _ dX7_lineOf_36 (line_eq hhb hpb hy)
theorem iwX7_soundingFret_X7_c_X7_soundingFret : ∀ w ∈ wsX70, w ∈ wsX7_soundingFret := by decide +kernel
set_option maxHeartbeats 1000000 in
set_option maxRecDepth 100000 in
theorem c_X7_soundingFret (l : Launch) (E : zE) (x ms mp mt md pz len sp fm f : Nat) (q1 q2 q3 q4 q5 : Int32) (M : Nat → Nat) (hn : M 0 ≤ 12) (hPb : ∀ i, i < 12 → mP M i ≤ 2400) (hHb : ∀ i, i < 12 → mH M i ≤ 2000) (hf : f ≤ M 0) : zR l yX7_soundingFret wsX7_soundingFret ({ frames := 2, cells := 0, slots := 0, locals := 46 }) E [.ref x, .int (nI f)] [(x, .inr (7, [.ref ms, .ref mp, .int (nI pz), .ref mt, .int (nI len), .ref md, .int (nI sp), .int q1, .int q2, .int q3, .int q4, .int q5, .int (nI fm)])), (ms, .inl (E.2.1, 265, .inl (fun zz => nI (M zz))))] (fun r => r = nI (srcN (mP M) (mH M) (M 0) f)) := by
  refine zR.start (own := RX7) rfl (by decide +kernel) rfl (Nat.le_of_ble_eq_true rfl) (fun _ _ => rfl) ?_
  intro pZ eZ sZ mZ argsZ belowZ methZ cZ QZ hF hret hP hG ls hl
  obtain ⟨hx, hb, hml, hown, hts⟩ := id hF
  have hl : lv_has ls 6 [(0, .ref x), (1, .int (nI f))] := hl
  refine lv_iload_n hx hb dX7_soundingFret_0 rfl (lv_at hl 1 rfl) ?_
  refine lv_istore_n (lv' := [(2, .int (nI f)), (0, .ref x), (1, .int (nI f))]) hx hb dX7_soundingFret_1 rfl hl (by decide) rfl (fun ls hl => ?_)
  refine lv_iconst (v := nI 0) hx hb dX7_soundingFret_2 (by decide) ?_
  refine lv_istore_n (lv' := [(3, .int (nI 0)), (2, .int (nI f)), (0, .ref x), (1, .int (nI f))]) hx hb dX7_soundingFret_3 rfl hl (by decide) rfl (fun ls hl => ?_)
  refine lv_iload_n hx hb dX7_soundingFret_4 rfl (lv_at hl 3 rfl) ?_
  refine lv_iconst (v := nI 1) hx hb dX7_soundingFret_5 (by decide) ?_
  refine z_iadd (a := f) (b := 1) hx hb dX7_soundingFret_6 ?_
  refine lv_istore (lv' := [(4, .int (nI (f + 1))), (3, .int (nI 0)), (2, .int (nI f)), (0, .ref x), (1, .int (nI f))]) hx hb dX7_soundingFret_7 hl (by decide) rfl (fun ls hl => ?_)
  have L9_1 : ∀ (fuelZ : Nat) (g : Nat), M 0 + 1 - g < fuelZ → (f + 1 ≤ g) → (g ≤ M 0 + 1) → (0 < f ∨ g = 1) → ∀ ls : Array Slot, lv_has ls 6 [(4, .int (nI g)), (3, .int (nI ((srcL (mP M) (mH M) f (g - f - 1)).2))), (2, .int (nI ((srcL (mP M) (mH M) f (g - f - 1)).1))), (0, .ref x), (1, .int (nI f))] → W pZ l eZ ({ frames := 2, cells := 0, slots := 0, locals := 46 }) sZ mZ argsZ belowZ methZ cZ sZ.heap [] 0 0 QZ (F0 mZ 9 ls []) := by
    intro fuelZ
    induction fuelZ with
    | zero => intro g hm; exact absurd hm (Nat.not_lt_zero _)
    | succ fuelZ ih9 =>
      intro g hm i0 i1 i3 ls hl
      refine lv_iload hx hb dX7_soundingFret_9 (lv_at hl 0 rfl) ?_
      refine lv_aload_n hx hb dX7_soundingFret_11 rfl (lv_at hl 3 rfl) ?_
      refine va_get (D := E.1) (ci := 7) (v := .ref ms) (C := RX7) (T := TX7) (N := 13) hx hb hts iwX7_soundingFret_X7_c_X7_soundingFret hown hG.1 hP 0 rfl rfl 0 (by decide) (hts (.fieldLink RX7 7 "FrettedStringsModel" "st" "[I") (by decide +kernel)) (fun _ h9 => h9) rfl dX7_soundingFret_12 ?_
      refine lv_iconst (v := nI 0) hx hb dX7_soundingFret_15 (by decide) ?_
      refine z_iald (j := 0) (v := M 0) hx hb hG hP 1 rfl (by omega) (by decide) (rfl) dX7_soundingFret_16 ?_
      refine z_icmp_gt (a := g) (b := M 0) (tgt := 78) hx hb dX7_soundingFret_17 (by decide) (by omega) (by omega) (fun c2 => ?_) (fun c2 => ?_)
      · -- 17 t
        refine lv_iload_n hx hb dX7_soundingFret_78 rfl (lv_at hl 2 rfl) ?_
        exact hret _ _ _ dX7_soundingFret_79 (by unfold srcN; by_cases hf0 : f = 0; (rw [if_pos hf0, show g - f - 1 = 0 by omega]; exact congrArg nI hf0); (rw [if_neg hf0, show M 0 - f = g - f - 1 by omega]))
      · -- 17 f
        refine lv_iload_n hx hb dX7_soundingFret_20 rfl (lv_at hl 4 rfl) ?_
        refine z_if_le (a := f) (tgt := 78) hx hb dX7_soundingFret_21 (by decide) (by omega) (fun c3 => ?_) (fun c3 => ?_)
        · -- 21 t
          refine lv_iload_n hx hb dX7_soundingFret_78 rfl (lv_at hl 2 rfl) ?_
          exact hret _ _ _ dX7_soundingFret_79 (by unfold srcN; by_cases hf0 : f = 0; (rw [if_pos hf0, show g - f - 1 = 0 by omega]; exact congrArg nI hf0); (rw [if_neg hf0, show M 0 - f = g - f - 1 by omega]))
        · -- 21 f
          refine lv_aload_n hx hb dX7_soundingFret_24 rfl (lv_at hl 3 rfl) ?_
          refine lv_iload hx hb dX7_soundingFret_25 (lv_at hl 0 rfl) ?_
          refine lv_iconst (v := nI 1) hx hb dX7_soundingFret_27 (by decide) ?_
          have hPc := zP_sub (w := [(x, .inr (7, [.ref ms, .ref mp, .int (nI pz), .ref mt, .int (nI len), .ref md, .int (nI sp), .int q1, .int q2, .int q3, .int q4, .int q5, .int (nI fm)])), (ms, .inl (E.2.1, 265, .inl (fun zz => nI (M zz))))]) hP [0, 1] rfl
          refine z_rd (fun _ h => h) (va_runV (As := [.int (nI g), .int (nI 1)]) (rest := []) hF (c_X7_on l E x ms mp mt md pz len sp fm g 1 q1 q2 q3 q4 q5 M (by first | assumption | omega) (by first | assumption | omega) (by first | assumption | omega)) (cwV 2 hts gX7_soundingFret_X7_on rfl rfl rfl (by decide +kernel) ⟨Nat.le_of_ble_eq_true rfl, Nat.le_of_ble_eq_true rfl⟩) (z_preRV (va_recv hG.1 hP (ci := 7) (q0 := 0) rfl rfl) hPc hG) rfl rfl hl.1 rfl (lv_room (Nat.le_of_ble_eq_true rfl)) dX7_soundingFret_28 ⟨Nat.zero_le _, Nat.zero_le _⟩) (fun r4 hr4 => ?_)
          subst hr4
          refine lv_aload_n hx hb dX7_soundingFret_31 rfl (lv_at hl 3 rfl) ?_
          refine lv_iload_n hx hb dX7_soundingFret_32 rfl (lv_at hl 4 rfl) ?_
          refine lv_aload_n hx hb dX7_soundingFret_33 rfl (lv_at hl 3 rfl) ?_
          refine lv_iload hx hb dX7_soundingFret_34 (lv_at hl 0 rfl) ?_
          refine lv_iconst (v := nI 0) hx hb dX7_soundingFret_36 (by decide) ?_
          have hPc := zP_sub (w := [(x, .inr (7, [.ref ms, .ref mp, .int (nI pz), .ref mt, .int (nI len), .ref md, .int (nI sp), .int q1, .int q2, .int q3, .int q4, .int q5, .int (nI fm)])), (ms, .inl (E.2.1, 265, .inl (fun zz => nI (M zz))))]) hP [0, 1] rfl
          refine z_rd (fun _ h => h) (va_runV (As := [.int (nI g), .int (nI 0)]) (rest := [.int (nI f), .ref x, .int (nI (M (9 + 3 * (g - 1) + 1)))]) hF (c_X7_on l E x ms mp mt md pz len sp fm g 0 q1 q2 q3 q4 q5 M (by first | assumption | omega) (by first | assumption | omega) (by first | assumption | omega)) (cwV 2 hts gX7_soundingFret_X7_on rfl rfl rfl (by decide +kernel) ⟨Nat.le_of_ble_eq_true rfl, Nat.le_of_ble_eq_true rfl⟩) (z_preRV (va_recv hG.1 hP (ci := 7) (q0 := 0) rfl rfl) hPc hG) rfl rfl hl.1 rfl (lv_room (Nat.le_of_ble_eq_true rfl)) dX7_soundingFret_37 ⟨Nat.zero_le _, Nat.zero_le _⟩) (fun r5 hr5 => ?_)
          subst hr5
          have hPc := zP_sub (w := [(x, .inr (7, [.ref ms, .ref mp, .int (nI pz), .ref mt, .int (nI len), .ref md, .int (nI sp), .int q1, .int q2, .int q3, .int q4, .int q5, .int (nI fm)])), (ms, .inl (E.2.1, 265, .inl (fun zz => nI (M zz))))]) hP [0, 1] rfl
          refine z_rd (fun _ h => h) (va_runV (As := [.int (nI f), .int (nI (M (9 + 3 * (g - 1) + 0)))]) (rest := [.int (nI (M (9 + 3 * (g - 1) + 1)))]) hF (c_X7_lineOf l E x ms mp mt md pz len sp fm f (M (9 + 3 * (g - 1) + 0)) q1 q2 q3 q4 q5 M (by first | assumption | omega) (by first | assumption | omega) (by first | assumption | omega) (by first | assumption | omega) (Nat.le_trans (hPb (g - 1) (by omega)) (by omega))) (cwV 2 hts gX7_soundingFret_X7_lineOf rfl rfl rfl (by decide +kernel) ⟨Nat.le_of_ble_eq_true rfl, Nat.le_of_ble_eq_true rfl⟩) (z_preRV (va_recv hG.1 hP (ci := 7) (q0 := 0) rfl rfl) hPc hG) rfl rfl hl.1 rfl (lv_room (Nat.le_of_ble_eq_true rfl)) dX7_soundingFret_40 ⟨Nat.zero_le _, Nat.zero_le _⟩) (fun r6 hr6 => ?_)
          subst hr6
          refine lv_isub hx hb dX7_soundingFret_43 ?_
          refine lv_topi (fun x7 ex7 => ?_)
          refine lv_istore (lv' := [(5, .int x7), (4, .int (nI g)), (3, .int (nI ((srcL (mP M) (mH M) f (g - f - 1)).2))), (2, .int (nI ((srcL (mP M) (mH M) f (g - f - 1)).1))), (0, .ref x), (1, .int (nI f))]) hx hb dX7_soundingFret_44 hl (by decide) rfl (fun ls hl => ?_)
          refine lv_iload hx hb dX7_soundingFret_46 (lv_at hl 0 rfl) ?_
          refine lv_iload_n hx hb dX7_soundingFret_48 rfl (lv_at hl 2 rfl) ?_
          refine lv_icmp_le (tgt := 57) hx hb dX7_soundingFret_49 (by decide) (fun c8 => ?_) (fun c8 => ?_)
          · -- 49 t
            refine lv_iload_n hx hb dX7_soundingFret_57 rfl (lv_at hl 3 rfl) ?_
            refine lv_istore_n (lv' := [(2, .int (nI ((srcL (mP M) (mH M) f (g - f - 1)).1))), (5, .int x7), (4, .int (nI g)), (3, .int (nI ((srcL (mP M) (mH M) f (g - f - 1)).2))), (0, .ref x), (1, .int (nI f))]) hx hb dX7_soundingFret_58 rfl hl (by decide) rfl (fun ls hl => ?_)
            refine lv_iload hx hb dX7_soundingFret_59 (lv_at hl 1 rfl) ?_
            refine lv_iload_n hx hb dX7_soundingFret_61 rfl (lv_at hl 3 rfl) ?_
            refine lv_icmp_le (tgt := 70) hx hb dX7_soundingFret_62 (by decide) (fun _ => ?_) (fun c => absurd c8 c)
            refine lv_iload_n hx hb dX7_soundingFret_70 rfl (lv_at hl 3 rfl) ?_
            refine lv_istore_n (lv' := [(3, .int (nI ((srcL (mP M) (mH M) f (g - f - 1)).2))), (2, .int (nI ((srcL (mP M) (mH M) f (g - f - 1)).1))), (5, .int x7), (4, .int (nI g)), (0, .ref x), (1, .int (nI f))]) hx hb dX7_soundingFret_71 rfl hl (by decide) rfl (fun ls hl => ?_)
            refine z_iinc (k := 3) (d := 1) (lv' := [(4, .int (nI (g + 1))), (3, .int (nI ((srcL (mP M) (mH M) f (g - f - 1)).2))), (2, .int (nI ((srcL (mP M) (mH M) f (g - f - 1)).1))), (5, .int x7), (0, .ref x), (1, .int (nI f))]) hx hb dX7_soundingFret_72 (by decide) hl rfl (by decide) rfl (fun ls hl => ?_)
            refine lv_goto (tgt := 9) hx hb dX7_soundingFret_75 (by decide) ?_
            have e9 : nI ((srcL (mP M) (mH M) f (g - f - 1)).2) = nI ((srcL (mP M) (mH M) f ((g + 1) - f - 1)).2) := by first | rw [src_t2 (P := mP M) (Hh := mH M) hPb hHb (by omega) i0 (by omega) (by assumption) (by assumption)] | exact (src_f2 (P := mP M) (Hh := mH M) hPb hHb (by omega) i0 (by omega) (by assumption) (by assumption)).2
            have hl : lv_has ls 6 [(4, .int (nI (g + 1))), (3, .int (nI ((srcL (mP M) (mH M) f ((g + 1) - f - 1)).2))), (2, .int (nI ((srcL (mP M) (mH M) f (g - f - 1)).1))), (5, .int x7), (0, .ref x), (1, .int (nI f))] := Eq.subst (motive := fun XX : Int32 => lv_has ls 6 [(4, .int (nI (g + 1))), (3, .int XX), (2, .int (nI ((srcL (mP M) (mH M) f (g - f - 1)).1))), (5, .int x7), (0, .ref x), (1, .int (nI f))]) e9 hl
            have e10 : nI ((srcL (mP M) (mH M) f (g - f - 1)).1) = nI ((srcL (mP M) (mH M) f ((g + 1) - f - 1)).1) := by first | rw [src_t2 (P := mP M) (Hh := mH M) hPb hHb (by omega) i0 (by omega) (by assumption) (by assumption)] | rw [(src_f2 (P := mP M) (Hh := mH M) hPb hHb (by omega) i0 (by omega) (by assumption) (by assumption)).1]
            have hl : lv_has ls 6 [(4, .int (nI (g + 1))), (3, .int (nI ((srcL (mP M) (mH M) f ((g + 1) - f - 1)).2))), (2, .int (nI ((srcL (mP M) (mH M) f ((g + 1) - f - 1)).1))), (5, .int x7), (0, .ref x), (1, .int (nI f))] := Eq.subst (motive := fun XX : Int32 => lv_has ls 6 [(4, .int (nI (g + 1))), (3, .int (nI ((srcL (mP M) (mH M) f ((g + 1) - f - 1)).2))), (2, .int XX), (5, .int x7), (0, .ref x), (1, .int (nI f))]) e10 hl
            exact ih9 (g + 1) (by omega) (by omega) (by omega) (by omega) _ (lv_sub hl [0, 1, 2, 4, 5] rfl)
          · -- 49 f
            refine lv_iload hx hb dX7_soundingFret_52 (lv_at hl 1 rfl) ?_
            refine lv_goto (tgt := 58) hx hb dX7_soundingFret_54 (by decide) ?_
            refine lv_istore_n (lv' := [(2, .int (nI g)), (5, .int x7), (4, .int (nI g)), (3, .int (nI ((srcL (mP M) (mH M) f (g - f - 1)).2))), (0, .ref x), (1, .int (nI f))]) hx hb dX7_soundingFret_58 rfl hl (by decide) rfl (fun ls hl => ?_)
            refine lv_iload hx hb dX7_soundingFret_59 (lv_at hl 1 rfl) ?_
            refine lv_iload_n hx hb dX7_soundingFret_61 rfl (lv_at hl 3 rfl) ?_
            refine lv_icmp_le (tgt := 70) hx hb dX7_soundingFret_62 (by decide) (fun c => absurd c c8) (fun _ => ?_)
            refine lv_iload hx hb dX7_soundingFret_65 (lv_at hl 1 rfl) ?_
            refine lv_goto (tgt := 71) hx hb dX7_soundingFret_67 (by decide) ?_
            refine lv_istore_n (lv' := [(3, .int x7), (2, .int (nI g)), (5, .int x7), (4, .int (nI g)), (0, .ref x), (1, .int (nI f))]) hx hb dX7_soundingFret_71 rfl hl (by decide) rfl (fun ls hl => ?_)
            refine z_iinc (k := 3) (d := 1) (lv' := [(4, .int (nI (g + 1))), (3, .int x7), (2, .int (nI g)), (5, .int x7), (0, .ref x), (1, .int (nI f))]) hx hb dX7_soundingFret_72 (by decide) hl rfl (by decide) rfl (fun ls hl => ?_)
            refine lv_goto (tgt := 9) hx hb dX7_soundingFret_75 (by decide) ?_
            have e11 : x7 = nI ((srcL (mP M) (mH M) f ((g + 1) - f - 1)).2) := by first | rw [src_t2 (P := mP M) (Hh := mH M) hPb hHb (by omega) i0 (by omega) (by assumption) (by assumption)] | exact (src_f2 (P := mP M) (Hh := mH M) hPb hHb (by omega) i0 (by omega) (by assumption) (by assumption)).2
            have hl : lv_has ls 6 [(4, .int (nI (g + 1))), (3, .int (nI ((srcL (mP M) (mH M) f ((g + 1) - f - 1)).2))), (2, .int (nI g)), (5, .int x7), (0, .ref x), (1, .int (nI f))] := Eq.subst (motive := fun XX : Int32 => lv_has ls 6 [(4, .int (nI (g + 1))), (3, .int XX), (2, .int (nI g)), (5, .int x7), (0, .ref x), (1, .int (nI f))]) e11 hl
            have e12 : nI g = nI ((srcL (mP M) (mH M) f ((g + 1) - f - 1)).1) := by first | rw [src_t2 (P := mP M) (Hh := mH M) hPb hHb (by omega) i0 (by omega) (by assumption) (by assumption)] | rw [(src_f2 (P := mP M) (Hh := mH M) hPb hHb (by omega) i0 (by omega) (by assumption) (by assumption)).1]
            have hl : lv_has ls 6 [(4, .int (nI (g + 1))), (3, .int (nI ((srcL (mP M) (mH M) f ((g + 1) - f - 1)).2))), (2, .int (nI ((srcL (mP M) (mH M) f ((g + 1) - f - 1)).1))), (5, .int x7), (0, .ref x), (1, .int (nI f))] := Eq.subst (motive := fun XX : Int32 => lv_has ls 6 [(4, .int (nI (g + 1))), (3, .int (nI ((srcL (mP M) (mH M) f ((g + 1) - f - 1)).2))), (2, .int XX), (5, .int x7), (0, .ref x), (1, .int (nI f))]) e12 hl
            exact ih9 (g + 1) (by omega) (by omega) (by omega) (by omega) _ (lv_sub hl [0, 1, 2, 4, 5] rfl)
  have e13 : nI 0 = nI ((srcL (mP M) (mH M) f ((f + 1) - f - 1)).2) := by rw [show f + 1 - f - 1 = 0 by omega]; rfl
  have hl : lv_has ls 6 [(4, .int (nI (f + 1))), (3, .int (nI ((srcL (mP M) (mH M) f ((f + 1) - f - 1)).2))), (2, .int (nI f)), (0, .ref x), (1, .int (nI f))] := Eq.subst (motive := fun XX : Int32 => lv_has ls 6 [(4, .int (nI (f + 1))), (3, .int XX), (2, .int (nI f)), (0, .ref x), (1, .int (nI f))]) e13 hl
  have e14 : nI f = nI ((srcL (mP M) (mH M) f ((f + 1) - f - 1)).1) := by rw [show f + 1 - f - 1 = 0 by omega]; rfl
  have hl : lv_has ls 6 [(4, .int (nI (f + 1))), (3, .int (nI ((srcL (mP M) (mH M) f ((f + 1) - f - 1)).2))), (2, .int (nI ((srcL (mP M) (mH M) f ((f + 1) - f - 1)).1))), (0, .ref x), (1, .int (nI f))] := Eq.subst (motive := fun XX : Int32 => lv_has ls 6 [(4, .int (nI (f + 1))), (3, .int (nI ((srcL (mP M) (mH M) f ((f + 1) - f - 1)).2))), (2, .int XX), (0, .ref x), (1, .int (nI f))]) e14 hl
  exact L9_1 ((M 0 + 1 - (f + 1)) + 1) (f + 1) (Nat.lt_succ_self _) (by omega) (by omega) (by omega) _ (lv_sub hl [0, 1, 2, 3, 4] rfl)
set_option maxHeartbeats 1000000 in
set_option maxRecDepth 100000 in
theorem c_X7_sounds (l : Launch) (E : zE) (x ms mp mt md pz len sp fm s : Nat) (q1 q2 q3 q4 q5 : Int32) (M : Nat → Nat) (hn : M 0 ≤ 12) (hPb : ∀ i, i < 12 → mP M i ≤ 2400) (hHb : ∀ i, i < 12 → mH M i ≤ 2000) (hprn : ∀ i, i < 4 → mPr M i ≤ M 0) (hs : s < 4) : zR l yX7_sounds wsX7_sounds ({ frames := 3, cells := 0, slots := 0, locals := 71 }) E [.ref x, .int (nI s)] [(x, .inr (7, [.ref ms, .ref mp, .int (nI pz), .ref mt, .int (nI len), .ref md, .int (nI sp), .int q1, .int q2, .int q3, .int q4, .int q5, .int (nI fm)])), (ms, .inl (E.2.1, 265, .inl (fun zz => nI (M zz))))] (fun r => r = nI (mSo M s)) := by
  refine zR.start (own := RX7) rfl (by decide +kernel) rfl (Nat.le_of_ble_eq_true rfl) (fun _ _ => rfl) ?_
  intro pZ eZ sZ mZ argsZ belowZ methZ cZ QZ hF hret hP hG ls hl
  obtain ⟨hx, hb, hml, hown, hts⟩ := id hF
  have hl : lv_has ls 2 [(0, .ref x), (1, .int (nI s))] := hl
  refine lv_aload_n hx hb dX7_sounds_0 rfl (lv_at hl 0 rfl) ?_
  refine lv_aload_n hx hb dX7_sounds_1 rfl (lv_at hl 0 rfl) ?_
  refine lv_iload_n hx hb dX7_sounds_2 rfl (lv_at hl 1 rfl) ?_
  refine lv_iconst (v := nI 1) hx hb dX7_sounds_3 (by decide) ?_
  have hPc := zP_sub (w := [(x, .inr (7, [.ref ms, .ref mp, .int (nI pz), .ref mt, .int (nI len), .ref md, .int (nI sp), .int q1, .int q2, .int q3, .int q4, .int q5, .int (nI fm)])), (ms, .inl (E.2.1, 265, .inl (fun zz => nI (M zz))))]) hP [0, 1] rfl
  refine z_rd (fun _ h => h) (va_runV (As := [.int (nI s), .int (nI 1)]) (rest := [.ref x]) hF (c_X7_of l E x ms mp mt md pz len sp fm s 1 q1 q2 q3 q4 q5 M (by first | assumption | omega | exact hprn s hs) (by first | assumption | omega | exact hprn s hs)) (cwV 2 hts gX7_sounds_X7_of rfl rfl rfl (by decide +kernel) ⟨Nat.le_of_ble_eq_true rfl, Nat.le_of_ble_eq_true rfl⟩) (z_preRV (va_recv hG.1 hP (ci := 7) (q0 := 0) rfl rfl) hPc hG) rfl rfl hl.1 rfl (lv_room (Nat.le_of_ble_eq_true rfl)) dX7_sounds_4 ⟨Nat.zero_le _, Nat.zero_le _⟩) (fun r1 hr1 => ?_)
  subst hr1
  have hPc := zP_sub (w := [(x, .inr (7, [.ref ms, .ref mp, .int (nI pz), .ref mt, .int (nI len), .ref md, .int (nI sp), .int q1, .int q2, .int q3, .int q4, .int q5, .int (nI fm)])), (ms, .inl (E.2.1, 265, .inl (fun zz => nI (M zz))))]) hP [0, 1] rfl
  refine z_rd (fun _ h => h) (va_runV (As := [.int (nI (M (45 + 4 * s + 1)))]) (rest := []) hF (c_X7_soundingFret l E x ms mp mt md pz len sp fm (M (45 + 4 * s + 1)) q1 q2 q3 q4 q5 M (by first | assumption | omega | exact hprn s hs) (by first | assumption | omega | exact hprn s hs) (by first | assumption | omega | exact hprn s hs) (by first | assumption | omega | exact hprn s hs)) (cwV 1 hts gX7_sounds_X7_soundingFret rfl rfl rfl (by decide +kernel) ⟨Nat.le_of_ble_eq_true rfl, Nat.le_of_ble_eq_true rfl⟩) (z_preRV (va_recv hG.1 hP (ci := 7) (q0 := 0) rfl rfl) hPc hG) rfl rfl hl.1 rfl (lv_room (Nat.le_of_ble_eq_true rfl)) dX7_sounds_7 ⟨Nat.zero_le _, Nat.zero_le _⟩) (fun r2 hr2 => ?_)
  subst hr2
  exact hret _ _ _ dX7_sounds_10 (rfl)
set_option maxHeartbeats 1000000 in
set_option maxRecDepth 100000 in
theorem c_X7_buzzes (l : Launch) (E : zE) (x ms mp mt md pz len sp fm s : Nat) (q1 q2 q3 q4 q5 : Int32) (M : Nat → Nat) (hn : M 0 ≤ 12) (hPb : ∀ i, i < 12 → mP M i ≤ 2400) (hHb : ∀ i, i < 12 → mH M i ≤ 2000) (hprn : ∀ i, i < 4 → mPr M i ≤ M 0) (hs : s < 4) : zR l yX7_buzzes wsX7_buzzes ({ frames := 4, cells := 0, slots := 0, locals := 92 }) E [.ref x, .int (nI s)] [(x, .inr (7, [.ref ms, .ref mp, .int (nI pz), .ref mt, .int (nI len), .ref md, .int (nI sp), .int q1, .int q2, .int q3, .int q4, .int q5, .int (nI fm)])), (ms, .inl (E.2.1, 265, .inl (fun zz => nI (M zz))))] (fun r => (r = nI 1 ∧ (mSo M s ≠ mPr M s)) ∨ (r = nI 0 ∧ ¬ (mSo M s ≠ mPr M s))) := by
  refine zR.start (own := RX7) rfl (by decide +kernel) rfl (Nat.le_of_ble_eq_true rfl) (z_nar) ?_
  intro pZ eZ sZ mZ argsZ belowZ methZ cZ QZ hF hret hP hG ls hl
  obtain ⟨hx, hb, hml, hown, hts⟩ := id hF
  have hl : lv_has ls 2 [(0, .ref x), (1, .int (nI s))] := hl
  have hb1 : mSo M s ≤ M 0 := srcN_le _ _ (hprn s hs)
  have hb2 : M (45 + 4 * s + 1) ≤ M 0 := hprn s hs
  refine lv_aload_n hx hb dX7_buzzes_0 rfl (lv_at hl 0 rfl) ?_
  refine lv_iload_n hx hb dX7_buzzes_1 rfl (lv_at hl 1 rfl) ?_
  have hPc := zP_sub (w := [(x, .inr (7, [.ref ms, .ref mp, .int (nI pz), .ref mt, .int (nI len), .ref md, .int (nI sp), .int q1, .int q2, .int q3, .int q4, .int q5, .int (nI fm)])), (ms, .inl (E.2.1, 265, .inl (fun zz => nI (M zz))))]) hP [0, 1] rfl
  refine z_rd (fun _ h => h) (va_runV (As := [.int (nI s)]) (rest := []) hF (c_X7_sounds l E x ms mp mt md pz len sp fm s q1 q2 q3 q4 q5 M (by first | assumption | omega) (by first | assumption | omega) (by first | assumption | omega) (by first | assumption | omega) (by first | assumption | omega)) (cwV 1 hts gX7_buzzes_X7_sounds rfl rfl rfl (by decide +kernel) ⟨Nat.le_of_ble_eq_true rfl, Nat.le_of_ble_eq_true rfl⟩) (z_preRV (va_recv hG.1 hP (ci := 7) (q0 := 0) rfl rfl) hPc hG) rfl rfl hl.1 rfl (lv_room (Nat.le_of_ble_eq_true rfl)) dX7_buzzes_2 ⟨Nat.zero_le _, Nat.zero_le _⟩) (fun r1 hr1 => ?_)
  subst hr1
  refine lv_aload_n hx hb dX7_buzzes_5 rfl (lv_at hl 0 rfl) ?_
  refine lv_iload_n hx hb dX7_buzzes_6 rfl (lv_at hl 1 rfl) ?_
  refine lv_iconst (v := nI 1) hx hb dX7_buzzes_7 (by decide) ?_
  have hPc := zP_sub (w := [(x, .inr (7, [.ref ms, .ref mp, .int (nI pz), .ref mt, .int (nI len), .ref md, .int (nI sp), .int q1, .int q2, .int q3, .int q4, .int q5, .int (nI fm)])), (ms, .inl (E.2.1, 265, .inl (fun zz => nI (M zz))))]) hP [0, 1] rfl
  refine z_rd (fun _ h => h) (va_runV (As := [.int (nI s), .int (nI 1)]) (rest := [.int (nI (mSo M s))]) hF (c_X7_of l E x ms mp mt md pz len sp fm s 1 q1 q2 q3 q4 q5 M (by first | assumption | omega) (by first | assumption | omega)) (cwV 2 hts gX7_buzzes_X7_of rfl rfl rfl (by decide +kernel) ⟨Nat.le_of_ble_eq_true rfl, Nat.le_of_ble_eq_true rfl⟩) (z_preRV (va_recv hG.1 hP (ci := 7) (q0 := 0) rfl rfl) hPc hG) rfl rfl hl.1 rfl (lv_room (Nat.le_of_ble_eq_true rfl)) dX7_buzzes_8 ⟨Nat.zero_le _, Nat.zero_le _⟩) (fun r2 hr2 => ?_)
  subst hr2
  refine z_icmp_eq (a := mSo M s) (b := M (45 + 4 * s + 1)) (tgt := 18) hx hb dX7_buzzes_11 (by decide) (by omega) (by omega) (fun c3 => ?_) (fun c3 => ?_)
  · -- 11 t
    refine lv_iconst (v := nI 0) hx hb dX7_buzzes_18 (by decide) ?_
    exact hret _ _ _ dX7_buzzes_19 (Or.inr ⟨rfl, by first | assumption | exact fun q => q (by assumption)⟩)
  · -- 11 f
    refine lv_iconst (v := nI 1) hx hb dX7_buzzes_14 (by decide) ?_
    refine lv_goto (tgt := 19) hx hb dX7_buzzes_15 (by decide) ?_
    exact hret _ _ _ dX7_buzzes_19 (Or.inl ⟨rfl, by first | assumption | exact fun q => q (by assumption)⟩)
set_option maxHeartbeats 1000000 in
set_option maxRecDepth 100000 in
theorem c_X7_positionOf (l : Launch) (E : zE) (x ms mp mt md pz len sp fm s : Nat) (q1 q2 q3 q4 q5 : Int32) (M : Nat → Nat) (hn : M 0 ≤ 12) (hPb : ∀ i, i < 12 → mP M i ≤ 2400) (hHb : ∀ i, i < 12 → mH M i ≤ 2000) (hprn : ∀ i, i < 4 → mPr M i ≤ M 0) (hs : s < 4) : zR l yX7_positionOf wsX7_positionOf ({ frames := 4, cells := 0, slots := 0, locals := 92 }) E [.ref x, .int (nI s)] [(x, .inr (7, [.ref ms, .ref mp, .int (nI pz), .ref mt, .int (nI len), .ref md, .int (nI sp), .int q1, .int q2, .int q3, .int q4, .int q5, .int (nI fm)])), (ms, .inl (E.2.1, 265, .inl (fun zz => nI (M zz))))] (fun r => r = nI (mSt M s)) := by
  refine zR.start (own := RX7) rfl (by decide +kernel) rfl (Nat.le_of_ble_eq_true rfl) (fun _ _ => rfl) ?_
  intro pZ eZ sZ mZ argsZ belowZ methZ cZ QZ hF hret hP hG ls hl
  obtain ⟨hx, hb, hml, hown, hts⟩ := id hF
  have hl : lv_has ls 3 [(0, .ref x), (1, .int (nI s))] := hl
  have hb1 : mSo M s ≤ M 0 := srcN_le _ _ (hprn s hs)
  refine lv_aload_n hx hb dX7_positionOf_0 rfl (lv_at hl 0 rfl) ?_
  refine lv_iload_n hx hb dX7_positionOf_1 rfl (lv_at hl 1 rfl) ?_
  have hPc := zP_sub (w := [(x, .inr (7, [.ref ms, .ref mp, .int (nI pz), .ref mt, .int (nI len), .ref md, .int (nI sp), .int q1, .int q2, .int q3, .int q4, .int q5, .int (nI fm)])), (ms, .inl (E.2.1, 265, .inl (fun zz => nI (M zz))))]) hP [0, 1] rfl
  refine z_rd (fun _ h => h) (va_runV (As := [.int (nI s)]) (rest := []) hF (c_X7_sounds l E x ms mp mt md pz len sp fm s q1 q2 q3 q4 q5 M (by first | assumption | omega) (by first | assumption | omega) (by first | assumption | omega) (by first | assumption | omega) (by first | assumption | omega)) (cwV 1 hts gX7_positionOf_X7_sounds rfl rfl rfl (by decide +kernel) ⟨Nat.le_of_ble_eq_true rfl, Nat.le_of_ble_eq_true rfl⟩) (z_preRV (va_recv hG.1 hP (ci := 7) (q0 := 0) rfl rfl) hPc hG) rfl rfl hl.1 rfl (lv_room (Nat.le_of_ble_eq_true rfl)) dX7_positionOf_2 ⟨Nat.zero_le _, Nat.zero_le _⟩) (fun r1 hr1 => ?_)
  subst hr1
  refine lv_istore_n (lv' := [(2, .int (nI (mSo M s))), (0, .ref x), (1, .int (nI s))]) hx hb dX7_positionOf_5 rfl hl (by decide) rfl (fun ls hl => ?_)
  refine lv_iload_n hx hb dX7_positionOf_6 rfl (lv_at hl 0 rfl) ?_
  refine z_if_ne (a := mSo M s) (tgt := 14) hx hb dX7_positionOf_7 (by decide) (by omega) (fun c2 => ?_) (fun c2 => ?_)
  · -- 7 t
    refine lv_aload_n hx hb dX7_positionOf_14 rfl (lv_at hl 1 rfl) ?_
    refine lv_iload_n hx hb dX7_positionOf_15 rfl (lv_at hl 0 rfl) ?_
    refine lv_iconst (v := nI 0) hx hb dX7_positionOf_16 (by decide) ?_
    have hPc := zP_sub (w := [(x, .inr (7, [.ref ms, .ref mp, .int (nI pz), .ref mt, .int (nI len), .ref md, .int (nI sp), .int q1, .int q2, .int q3, .int q4, .int q5, .int (nI fm)])), (ms, .inl (E.2.1, 265, .inl (fun zz => nI (M zz))))]) hP [0, 1] rfl
    refine z_rd (fun _ h => h) (va_runV (As := [.int (nI (mSo M s)), .int (nI 0)]) (rest := []) hF (c_X7_on l E x ms mp mt md pz len sp fm (mSo M s) 0 q1 q2 q3 q4 q5 M (by first | assumption | omega) (by first | assumption | omega) (by first | assumption | omega)) (cwV 2 hts gX7_positionOf_X7_on rfl rfl rfl (by decide +kernel) ⟨Nat.le_of_ble_eq_true rfl, Nat.le_of_ble_eq_true rfl⟩) (z_preRV (va_recv hG.1 hP (ci := 7) (q0 := 0) rfl rfl) hPc hG) rfl rfl hl.1 rfl (lv_room (Nat.le_of_ble_eq_true rfl)) dX7_positionOf_17 ⟨Nat.zero_le _, Nat.zero_le _⟩) (fun r3 hr3 => ?_)
    subst hr3
    exact hret _ _ _ dX7_positionOf_20 (by unfold mSt atN; first | rw [if_pos (by assumption)] | rw [if_neg (by omega)]; rfl)
  · -- 7 f
    refine lv_iconst (v := nI 0) hx hb dX7_positionOf_10 (by decide) ?_
    refine lv_goto (tgt := 20) hx hb dX7_positionOf_11 (by decide) ?_
    exact hret _ _ _ dX7_positionOf_20 (by unfold mSt atN; first | rw [if_pos (by assumption)] | rw [if_neg (by omega)]; rfl)
set_option maxHeartbeats 1000000 in
set_option maxRecDepth 100000 in
theorem c_X7_lengthOf (l : Launch) (E : zE) (x ms mp mt md pz len sp fm s : Nat) (q1 q2 q3 q4 q5 : Int32) (M : Nat → Nat) (hn : M 0 ≤ 12) (hPb : ∀ i, i < 12 → mP M i ≤ 2400) (hHb : ∀ i, i < 12 → mH M i ≤ 2000) (hprn : ∀ i, i < 4 → mPr M i ≤ M 0) (hs : s < 4) : zR l yX7_lengthOf wsX7_lengthOf ({ frames := 5, cells := 0, slots := 0, locals := 114 }) E [.ref x, .int (nI s)] [(x, .inr (7, [.ref ms, .ref mp, .int (nI pz), .ref mt, .int (nI len), .ref md, .int (nI sp), .int q1, .int q2, .int q3, .int q4, .int q5, .int (nI fm)])), (ms, .inl (E.2.1, 265, .inl (fun zz => nI (M zz))))] (fun r => r = nI (2520 - mSt M s)) := by
  refine zR.start (own := RX7) rfl (by decide +kernel) rfl (Nat.le_of_ble_eq_true rfl) (fun _ _ => rfl) ?_
  intro pZ eZ sZ mZ argsZ belowZ methZ cZ QZ hF hret hP hG ls hl
  obtain ⟨hx, hb, hml, hown, hts⟩ := id hF
  have hl : lv_has ls 2 [(0, .ref x), (1, .int (nI s))] := hl
  have hsb : mSt M s ≤ 2400 := mSt_le hn hPb hprn hs
  refine lv_sipush (v := nI 2520) hx hb dX7_lengthOf_0 (by decide) ?_
  refine lv_aload_n hx hb dX7_lengthOf_3 rfl (lv_at hl 0 rfl) ?_
  refine lv_iload_n hx hb dX7_lengthOf_4 rfl (lv_at hl 1 rfl) ?_
  have hPc := zP_sub (w := [(x, .inr (7, [.ref ms, .ref mp, .int (nI pz), .ref mt, .int (nI len), .ref md, .int (nI sp), .int q1, .int q2, .int q3, .int q4, .int q5, .int (nI fm)])), (ms, .inl (E.2.1, 265, .inl (fun zz => nI (M zz))))]) hP [0, 1] rfl
  refine z_rd (fun _ h => h) (va_runV (As := [.int (nI s)]) (rest := [.int (nI 2520)]) hF (c_X7_positionOf l E x ms mp mt md pz len sp fm s q1 q2 q3 q4 q5 M (by first | assumption | omega) (by first | assumption | omega) (by first | assumption | omega) (by first | assumption | omega) (by first | assumption | omega)) (cwV 1 hts gX7_lengthOf_X7_positionOf rfl rfl rfl (by decide +kernel) ⟨Nat.le_of_ble_eq_true rfl, Nat.le_of_ble_eq_true rfl⟩) (z_preRV (va_recv hG.1 hP (ci := 7) (q0 := 0) rfl rfl) hPc hG) rfl rfl hl.1 rfl (lv_room (Nat.le_of_ble_eq_true rfl)) dX7_lengthOf_5 ⟨Nat.zero_le _, Nat.zero_le _⟩) (fun r1 hr1 => ?_)
  subst hr1
  refine z_isub (a := 2520) (b := mSt M s) hx hb dX7_lengthOf_8 (by omega) ?_
  exact hret _ _ _ dX7_lengthOf_9 (by first | rfl | (congr 1; omega))
