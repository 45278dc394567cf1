set_option maxHeartbeats 1000000 in
set_option maxRecDepth 100000 in
theorem c_floorDiv (l : Launch) (E : zE) (a b : Int32) (hb0 : 0 < b.toInt) : zR l yJ9_floorDiv_7cf53 wsJ9_floorDiv_7cf53 ({ frames := 0, cells := 0, slots := 0, locals := 0 }) E [.int a, .int b] [] (fun r => r = Int32.ofInt (a.toInt / b.toInt)) := by
  refine zR.start (own := RJ9) rfl (by decide +kernel) rfl (Nat.le_of_ble_eq_true rfl) (fun _ _ => rfl) ?_
  intro pZ eZ sZ mZ argsZ belowZ methZ cZ QZ hF hret hP hG ls hl
  obtain ⟨hx, hb, hml, hown, hts⟩ := id hF
  have hl : lv_has ls 3 [(0, .int a), (1, .int b)] := hl
  refine lv_iload_n hx hb dJ9_floorDiv_7cf53_0 rfl (lv_at hl 0 rfl) ?_
  refine lv_iload_n hx hb dJ9_floorDiv_7cf53_1 rfl (lv_at hl 1 rfl) ?_
  refine lv_idiv hx hb dJ9_floorDiv_7cf53_2 (by intro q; rw [q] at hb0; exact absurd hb0 (by decide)) ?_
  refine lv_topi (fun x1 ex1 => ?_)
  refine lv_istore_n (lv' := [(2, .int x1), (0, .int a), (1, .int b)]) hx hb dJ9_floorDiv_7cf53_3 rfl hl (by decide) rfl (fun ls hl => ?_)
  refine lv_iload_n hx hb dJ9_floorDiv_7cf53_4 rfl (lv_at hl 1 rfl) ?_
  refine lv_iload_n hx hb dJ9_floorDiv_7cf53_5 rfl (lv_at hl 2 rfl) ?_
  refine lv_ixor hx hb dJ9_floorDiv_7cf53_6 ?_
  refine lv_if_ge (tgt := 21) hx hb dJ9_floorDiv_7cf53_7 (by decide) (fun c2 => ?_) (fun c2 => ?_)
  · -- 7 t
    refine lv_iload_n hx hb dJ9_floorDiv_7cf53_21 rfl (lv_at hl 0 rfl) ?_
    exact hret _ _ _ dJ9_floorDiv_7cf53_22 (by subst ex1; first | exact fdiv_pos hb0 (Int32.not_lt.mpr (by assumption)) | exact fdiv_eq hb0 (by assumption))
  · -- 7 f
    refine lv_iload_n hx hb dJ9_floorDiv_7cf53_10 rfl (lv_at hl 0 rfl) ?_
    refine lv_iload_n hx hb dJ9_floorDiv_7cf53_11 rfl (lv_at hl 2 rfl) ?_
    refine lv_imul hx hb dJ9_floorDiv_7cf53_12 ?_
    refine lv_iload_n hx hb dJ9_floorDiv_7cf53_13 rfl (lv_at hl 1 rfl) ?_
    refine lv_icmp_eq (tgt := 21) hx hb dJ9_floorDiv_7cf53_14 (by decide) (fun c3 => ?_) (fun c3 => ?_)
    · -- 14 t
      refine lv_iload_n hx hb dJ9_floorDiv_7cf53_21 rfl (lv_at hl 0 rfl) ?_
      exact hret _ _ _ dJ9_floorDiv_7cf53_22 (by subst ex1; first | exact fdiv_pos hb0 (Int32.not_lt.mpr (by assumption)) | exact fdiv_eq hb0 (by assumption))
    · -- 14 f
      refine lv_iload_n hx hb dJ9_floorDiv_7cf53_17 rfl (lv_at hl 0 rfl) ?_
      refine lv_iconst (v := nI 1) hx hb dJ9_floorDiv_7cf53_18 (by decide) ?_
      refine lv_isub hx hb dJ9_floorDiv_7cf53_19 ?_
      exact hret _ _ _ dJ9_floorDiv_7cf53_20 (by subst ex1; exact fdiv_ne hb0 (Int32.not_le.mp (by assumption)) (by assumption))
set_option maxHeartbeats 1000000 in
set_option maxRecDepth 100000 in
theorem c_floorMod (l : Launch) (E : zE) (a b : Nat) (hb0 : 0 < b) (ha : a < 2147483648) (hb1 : b < 2147483648) : zR l yJ9_floorMod_7cf53 wsJ9_floorMod_7cf53 ({ frames := 0, cells := 0, slots := 0, locals := 0 }) E [.int (nI a), .int (nI b)] [] (fun r => r = nI (a % b)) := by
  refine zR.start (own := RJ9) rfl (by decide +kernel) rfl (Nat.le_of_ble_eq_true rfl) (fun _ _ => rfl) ?_
  intro pZ eZ sZ mZ argsZ belowZ methZ cZ QZ hF hret hP hG ls hl
  obtain ⟨hx, hb, hml, hown, hts⟩ := id hF
  have hl : lv_has ls 3 [(0, .int (nI a)), (1, .int (nI b))] := hl
  refine lv_iload_n hx hb dJ9_floorMod_7cf53_0 rfl (lv_at hl 0 rfl) ?_
  refine lv_iload_n hx hb dJ9_floorMod_7cf53_1 rfl (lv_at hl 1 rfl) ?_
  refine z_irem (a := a) (b := b) hx hb dJ9_floorMod_7cf53_2 (by omega) (by omega) (by omega) ?_
  refine lv_istore_n (lv' := [(2, .int (nI (a % b))), (0, .int (nI a)), (1, .int (nI b))]) hx hb dJ9_floorMod_7cf53_3 rfl hl (by decide) rfl (fun ls hl => ?_)
  refine lv_iload_n hx hb dJ9_floorMod_7cf53_4 rfl (lv_at hl 1 rfl) ?_
  refine lv_iload_n hx hb dJ9_floorMod_7cf53_5 rfl (lv_at hl 2 rfl) ?_
  refine z_ixor (a := a) (b := b) hx hb dJ9_floorMod_7cf53_6 ?_
  refine z_if_ge (tgt := 18) hx hb dJ9_floorMod_7cf53_7 (by decide) (Nat.xor_lt_two_pow (n := 31) ha hb1) ?_
  refine lv_iload_n hx hb dJ9_floorMod_7cf53_18 rfl (lv_at hl 0 rfl) ?_
  exact hret _ _ _ dJ9_floorMod_7cf53_19 (rfl)
set_option maxHeartbeats 1000000 in
set_option maxRecDepth 100000 in
theorem c_X6_isWithin (l : Launch) (E : zE) (v a b : Int32)  : zR l yX6_isWithin wsX6_isWithin ({ frames := 0, cells := 0, slots := 0, locals := 0 }) E [.int v, .int a, .int b] [] (fun r => (r = nI 1 ∧ (a ≤ v ∧ v ≤ b)) ∨ (r = nI 0 ∧ ¬ (a ≤ v ∧ v ≤ b))) := by
  refine zR.start (own := RX6) rfl (by decide +kernel) rfl (Nat.le_of_ble_eq_true rfl) (z_nar) ?_
  intro pZ eZ sZ mZ argsZ belowZ methZ cZ QZ hF hret hP hG ls hl
  obtain ⟨hx, hb, hml, hown, hts⟩ := id hF
  have hl : lv_has ls 3 [(0, .int v), (1, .int a), (2, .int b)] := hl
  refine lv_iload_n hx hb dX6_isWithin_0 rfl (lv_at hl 0 rfl) ?_
  refine lv_iload_n hx hb dX6_isWithin_1 rfl (lv_at hl 1 rfl) ?_
  refine lv_icmp_lt (tgt := 14) hx hb dX6_isWithin_2 (by decide) (fun c1 => ?_) (fun c1 => ?_)
  · -- 2 t
    refine lv_iconst (v := nI 0) hx hb dX6_isWithin_14 (by decide) ?_
    exact hret _ _ _ dX6_isWithin_15 (Or.inr ⟨rfl, by first | exact ⟨Int32.not_lt.mp ‹¬ v < a›, Int32.not_lt.mp ‹¬ b < v›⟩ | exact fun q => Int32.not_lt.mpr q.1 ‹v < a› | exact fun q => Int32.not_lt.mpr q.2 ‹b < v›⟩)
  · -- 2 f
    refine lv_iload_n hx hb dX6_isWithin_5 rfl (lv_at hl 0 rfl) ?_
    refine lv_iload_n hx hb dX6_isWithin_6 rfl (lv_at hl 2 rfl) ?_
    refine lv_icmp_gt (tgt := 14) hx hb dX6_isWithin_7 (by decide) (fun c2 => ?_) (fun c2 => ?_)
    · -- 7 t
      refine lv_iconst (v := nI 0) hx hb dX6_isWithin_14 (by decide) ?_
      exact hret _ _ _ dX6_isWithin_15 (Or.inr ⟨rfl, by first | exact ⟨Int32.not_lt.mp ‹¬ v < a›, Int32.not_lt.mp ‹¬ b < v›⟩ | exact fun q => Int32.not_lt.mpr q.1 ‹v < a› | exact fun q => Int32.not_lt.mpr q.2 ‹b < v›⟩)
    · -- 7 f
      refine lv_iconst (v := nI 1) hx hb dX6_isWithin_10 (by decide) ?_
      refine lv_goto (tgt := 15) hx hb dX6_isWithin_11 (by decide) ?_
      exact hret _ _ _ dX6_isWithin_15 (Or.inl ⟨rfl, by first | exact ⟨Int32.not_lt.mp ‹¬ v < a›, Int32.not_lt.mp ‹¬ b < v›⟩ | exact fun q => Int32.not_lt.mpr q.1 ‹v < a› | exact fun q => Int32.not_lt.mpr q.2 ‹b < v›⟩)
set_option maxHeartbeats 1000000 in
set_option maxRecDepth 100000 in
theorem c_X6_isString (l : Launch) (E : zE) (x : Int32)  : zR l yX6_isString wsX6_isString ({ frames := 1, cells := 0, slots := 0, locals := 22 }) E [.int x] [] (fun r => (r = nI 1 ∧ (nI 0 ≤ x ∧ x ≤ nI 3)) ∨ (r = nI 0 ∧ ¬ (nI 0 ≤ x ∧ x ≤ nI 3))) := by
  refine zR.start (own := RX6) rfl (by decide +kernel) rfl (Nat.le_of_ble_eq_true rfl) (z_nar) ?_
  intro pZ eZ sZ mZ argsZ belowZ methZ cZ QZ hF hret hP hG ls hl
  obtain ⟨hx, hb, hml, hown, hts⟩ := id hF
  have hl : lv_has ls 1 [(0, .int x)] := hl
  refine lv_iload_n hx hb dX6_isString_0 rfl (lv_at hl 0 rfl) ?_
  refine lv_iconst (v := nI 0) hx hb dX6_isString_1 (by decide) ?_
  refine lv_iconst (v := nI 3) hx hb dX6_isString_2 (by decide) ?_
  refine z_rd (fun _ h => h) (va_runS (As := [.int x, .int (nI 0), .int (nI 3)]) (rest := []) hF (c_X6_isWithin l E x (nI 0) (nI 3) ) (va_cwS 3 hts gX6_isString_X6_isWithin rfl rfl rfl (by decide +kernel) ⟨Nat.le_of_ble_eq_true rfl, Nat.le_of_ble_eq_true rfl⟩) (z_preR (fun k q h => by simp at h) hG) rfl rfl hl.1 rfl (lv_room (Nat.le_of_ble_eq_true rfl)) dX6_isString_3 ⟨Nat.zero_le _, Nat.zero_le _⟩) (fun r1 hr1 => ?_)
  rcases hr1 with ⟨rfl, c2⟩ | ⟨rfl, c2⟩
  · -- 3 t
    exact hret _ _ _ dX6_isString_6 (Or.inl ⟨rfl, by assumption⟩)
  · -- 3 f
    exact hret _ _ _ dX6_isString_6 (Or.inr ⟨rfl, by assumption⟩)
set_option maxHeartbeats 1000000 in
set_option maxRecDepth 100000 in
theorem c_X6_isMode (l : Launch) (E : zE) (x : Int32)  : zR l yX6_isMode wsX6_isMode ({ frames := 1, cells := 0, slots := 0, locals := 22 }) E [.int x] [] (fun r => (r = nI 1 ∧ (nI 1 ≤ x ∧ x ≤ nI 12)) ∨ (r = nI 0 ∧ ¬ (nI 1 ≤ x ∧ x ≤ nI 12))) := by
  refine zR.start (own := RX6) rfl (by decide +kernel) rfl (Nat.le_of_ble_eq_true rfl) (z_nar) ?_
  intro pZ eZ sZ mZ argsZ belowZ methZ cZ QZ hF hret hP hG ls hl
  obtain ⟨hx, hb, hml, hown, hts⟩ := id hF
  have hl : lv_has ls 1 [(0, .int x)] := hl
  refine lv_iload_n hx hb dX6_isMode_0 rfl (lv_at hl 0 rfl) ?_
  refine lv_iconst (v := nI 1) hx hb dX6_isMode_1 (by decide) ?_
  refine lv_bipush (v := nI 12) hx hb dX6_isMode_2 (by decide) ?_
  refine z_rd (fun _ h => h) (va_runS (As := [.int x, .int (nI 1), .int (nI 12)]) (rest := []) hF (c_X6_isWithin l E x (nI 1) (nI 12) ) (va_cwS 3 hts gX6_isMode_X6_isWithin rfl rfl rfl (by decide +kernel) ⟨Nat.le_of_ble_eq_true rfl, Nat.le_of_ble_eq_true rfl⟩) (z_preR (fun k q h => by simp at h) hG) rfl rfl hl.1 rfl (lv_room (Nat.le_of_ble_eq_true rfl)) dX6_isMode_4 ⟨Nat.zero_le _, Nat.zero_le _⟩) (fun r1 hr1 => ?_)
  rcases hr1 with ⟨rfl, c2⟩ | ⟨rfl, c2⟩
  · -- 4 t
    exact hret _ _ _ dX6_isMode_7 (Or.inl ⟨rfl, by assumption⟩)
  · -- 4 f
    exact hret _ _ _ dX6_isMode_7 (Or.inr ⟨rfl, by assumption⟩)
set_option maxHeartbeats 1000000 in
set_option maxRecDepth 100000 in
theorem c_X6_isPlace (l : Launch) (E : zE) (x : Int32)  : zR l yX6_isPlace wsX6_isPlace ({ frames := 1, cells := 0, slots := 0, locals := 22 }) E [.int x] [] (fun r => (r = nI 1 ∧ (nI 1 ≤ x ∧ x ≤ nI 2519)) ∨ (r = nI 0 ∧ ¬ (nI 1 ≤ x ∧ x ≤ nI 2519))) := by
  refine zR.start (own := RX6) rfl (by decide +kernel) rfl (Nat.le_of_ble_eq_true rfl) (z_nar) ?_
  intro pZ eZ sZ mZ argsZ belowZ methZ cZ QZ hF hret hP hG ls hl
  obtain ⟨hx, hb, hml, hown, hts⟩ := id hF
  have hl : lv_has ls 1 [(0, .int x)] := hl
  refine lv_iload_n hx hb dX6_isPlace_0 rfl (lv_at hl 0 rfl) ?_
  refine lv_iconst (v := nI 1) hx hb dX6_isPlace_1 (by decide) ?_
  refine lv_sipush (v := nI 2519) hx hb dX6_isPlace_2 (by decide) ?_
  refine z_rd (fun _ h => h) (va_runS (As := [.int x, .int (nI 1), .int (nI 2519)]) (rest := []) hF (c_X6_isWithin l E x (nI 1) (nI 2519) ) (va_cwS 3 hts gX6_isPlace_X6_isWithin rfl rfl rfl (by decide +kernel) ⟨Nat.le_of_ble_eq_true rfl, Nat.le_of_ble_eq_true rfl⟩) (z_preR (fun k q h => by simp at h) hG) rfl rfl hl.1 rfl (lv_room (Nat.le_of_ble_eq_true rfl)) dX6_isPlace_5 ⟨Nat.zero_le _, Nat.zero_le _⟩) (fun r1 hr1 => ?_)
  rcases hr1 with ⟨rfl, c2⟩ | ⟨rfl, c2⟩
  · -- 5 t
    exact hret _ _ _ dX6_isPlace_8 (Or.inl ⟨rfl, by assumption⟩)
  · -- 5 f
    exact hret _ _ _ dX6_isPlace_8 (Or.inr ⟨rfl, by assumption⟩)
theorem iwX1_has_X1_c_X1_has : ∀ w ∈ wsX10, w ∈ wsX1_has := by decide +kernel
set_option maxHeartbeats 1000000 in
set_option maxRecDepth 100000 in
theorem c_X1_has (l : Launch) (E : zE) (o ap ah aw n : Nat) (x : Int32)  : zR l yX1_has wsX1_has ({ frames := 1, cells := 0, slots := 0, locals := 22 }) E [.ref o, .int x] [(o, .inr (1, [.int (nI n), .ref ap, .ref ah, .ref aw]))] (fun r => (r = nI 1 ∧ (nI 1 ≤ x ∧ x ≤ nI n)) ∨ (r = nI 0 ∧ ¬ (nI 1 ≤ x ∧ x ≤ nI n))) := by
  refine zR.start (own := RX1) rfl (by decide +kernel) rfl (Nat.le_of_ble_eq_true rfl) (z_nar) ?_
  intro pZ eZ sZ mZ argsZ belowZ methZ cZ QZ hF hret hP hG ls hl
  obtain ⟨hx, hb, hml, hown, hts⟩ := id hF
  have hl : lv_has ls 2 [(0, .ref o), (1, .int x)] := hl
  refine lv_iload_n hx hb dX1_has_0 rfl (lv_at hl 1 rfl) ?_
  refine lv_iconst (v := nI 1) hx hb dX1_has_1 (by decide) ?_
  refine lv_aload_n hx hb dX1_has_2 rfl (lv_at hl 0 rfl) ?_
  refine va_get (D := E.1) (ci := 1) (v := .int (nI n)) (C := RX1) (T := TX1) (N := 4) hx hb hts iwX1_has_X1_c_X1_has hown hG.1 hP 0 rfl rfl 0 (by decide) (hts (.fieldLink RX1 21 "FrettedStrings$Neck" "frets" "I") (by decide +kernel)) (fun _ h9 => h9) rfl dX1_has_3 ?_
  refine z_rd (fun _ h => h) (va_runSN (As := [.int x, .int (nI 1), .int (nI n)]) (rest := []) hF (c_X6_isWithin l E x (nI 1) (nI n) ) ⟨va_cnB (host := RX6) 3 hts gX1_has_X6_isWithin_n31 rfl rfl rfl (hG.2 _ (List.mem_of_getElem? (i := 7) rfl)) (hts (.initialized RX6) (by decide +kernel)) (by decide +kernel) ⟨Nat.le_of_ble_eq_true rfl, Nat.le_of_ble_eq_true rfl⟩, hts (.static yX6_isWithin) (by decide +kernel), trivial⟩ (z_preR (fun k q h => by simp at h) hG) rfl rfl hl.1 rfl (lv_room (Nat.le_of_ble_eq_true rfl)) dX1_has_6 ⟨Nat.zero_le _, Nat.zero_le _⟩) (fun r1 hr1 => ?_)
  rcases hr1 with ⟨rfl, c2⟩ | ⟨rfl, c2⟩
  · -- 6 t
    exact hret _ _ _ dX1_has_9 (Or.inl ⟨rfl, by assumption⟩)
  · -- 6 f
    exact hret _ _ _ dX1_has_9 (Or.inr ⟨rfl, by assumption⟩)
theorem iwX1_has_X1_c_X1_hasN : ∀ w ∈ wsX10, w ∈ wsX1_has := by decide +kernel
set_option maxHeartbeats 1000000 in
set_option maxRecDepth 100000 in
theorem c_X1_hasN (l : Launch) (E : zE) (o ap ah aw n f : Nat) (hn : n ≤ 12) (hf : f ≤ n) : zR l yX1_has wsX1_has ({ frames := 1, cells := 0, slots := 0, locals := 22 }) E [.ref o, .int (nI f)] [(o, .inr (1, [.int (nI n), .ref ap, .ref ah, .ref aw]))] (fun r => (r = nI 1 ∧ (1 ≤ f)) ∨ (r = nI 0 ∧ ¬ (1 ≤ f))) := by
  refine zR.start (own := RX1) rfl (by decide +kernel) rfl (Nat.le_of_ble_eq_true rfl) (z_nar) ?_
  intro pZ eZ sZ mZ argsZ belowZ methZ cZ QZ hF hret hP hG ls hl
  obtain ⟨hx, hb, hml, hown, hts⟩ := id hF
  have hl : lv_has ls 2 [(0, .ref o), (1, .int (nI f))] := hl
  refine lv_iload_n hx hb dX1_has_0 rfl (lv_at hl 1 rfl) ?_
  refine lv_iconst (v := nI 1) hx hb dX1_has_1 (by decide) ?_
  refine lv_aload_n hx hb dX1_has_2 rfl (lv_at hl 0 rfl) ?_
  refine va_get (D := E.1) (ci := 1) (v := .int (nI n)) (C := RX1) (T := TX1) (N := 4) hx hb hts iwX1_has_X1_c_X1_hasN hown hG.1 hP 0 rfl rfl 0 (by decide) (hts (.fieldLink RX1 21 "FrettedStrings$Neck" "frets" "I") (by decide +kernel)) (fun _ h9 => h9) rfl dX1_has_3 ?_
  refine z_rd (fun _ h => h) (va_runSN (As := [.int (nI f), .int (nI 1), .int (nI n)]) (rest := []) hF (c_X6_isWithin l E (nI f) (nI 1) (nI n) ) ⟨va_cnB (host := RX6) 3 hts gX1_has_X6_isWithin_n31 rfl rfl rfl (hG.2 _ (List.mem_of_getElem? (i := 7) rfl)) (hts (.initialized RX6) (by decide +kernel)) (by decide +kernel) ⟨Nat.le_of_ble_eq_true rfl, Nat.le_of_ble_eq_true rfl⟩, hts (.static yX6_isWithin) (by decide +kernel), trivial⟩ (z_preR (fun k q h => by simp at h) hG) rfl rfl hl.1 rfl (lv_room (Nat.le_of_ble_eq_true rfl)) dX1_has_6 ⟨Nat.zero_le _, Nat.zero_le _⟩) (fun r1 hr1 => ?_)
  rcases hr1 with ⟨rfl, c2⟩ | ⟨rfl, c2⟩
  · -- 6 t
    exact hret _ _ _ dX1_has_9 (Or.inl ⟨rfl, by first | exact (nI_leI (by omega) (by omega)).mp (And.left (by assumption)) | exact fun q => absurd (z_in (by omega) q hf) (by assumption)⟩)
  · -- 6 f
    exact hret _ _ _ dX1_has_9 (Or.inr ⟨rfl, by first | exact (nI_leI (by omega) (by omega)).mp (And.left (by assumption)) | exact fun q => absurd (z_in (by omega) q hf) (by assumption)⟩)
theorem iwX1_isNumberOrOpen_X1_c_X1_isNumberOrOpen : ∀ w ∈ wsX10, w ∈ wsX1_isNumberOrOpen := by decide +kernel
set_option maxHeartbeats 1000000 in
set_option maxRecDepth 100000 in
theorem c_X1_isNumberOrOpen (l : Launch) (E : zE) (o ap ah aw n : Nat) (x : Int32)  : zR l yX1_isNumberOrOpen wsX1_isNumberOrOpen ({ frames := 1, cells := 0, slots := 0, locals := 22 }) E [.ref o, .int x] [(o, .inr (1, [.int (nI n), .ref ap, .ref ah, .ref aw]))] (fun r => (r = nI 1 ∧ (nI 0 ≤ x ∧ x ≤ nI n)) ∨ (r = nI 0 ∧ ¬ (nI 0 ≤ x ∧ x ≤ nI n))) := by
  refine zR.start (own := RX1) rfl (by decide +kernel) rfl (Nat.le_of_ble_eq_true rfl) (z_nar) ?_
  intro pZ eZ sZ mZ argsZ belowZ methZ cZ QZ hF hret hP hG ls hl
  obtain ⟨hx, hb, hml, hown, hts⟩ := id hF
  have hl : lv_has ls 2 [(0, .ref o), (1, .int x)] := hl
  refine lv_iload_n hx hb dX1_isNumberOrOpen_0 rfl (lv_at hl 1 rfl) ?_
  refine lv_iconst (v := nI 0) hx hb dX1_isNumberOrOpen_1 (by decide) ?_
  refine lv_aload_n hx hb dX1_isNumberOrOpen_2 rfl (lv_at hl 0 rfl) ?_
  refine va_get (D := E.1) (ci := 1) (v := .int (nI n)) (C := RX1) (T := TX1) (N := 4) hx hb hts iwX1_isNumberOrOpen_X1_c_X1_isNumberOrOpen hown hG.1 hP 0 rfl rfl 0 (by decide) (hts (.fieldLink RX1 21 "FrettedStrings$Neck" "frets" "I") (by decide +kernel)) (fun _ h9 => h9) rfl dX1_isNumberOrOpen_3 ?_
  refine z_rd (fun _ h => h) (va_runSN (As := [.int x, .int (nI 0), .int (nI n)]) (rest := []) hF (c_X6_isWithin l E x (nI 0) (nI n) ) ⟨va_cnB (host := RX6) 3 hts gX1_isNumberOrOpen_X6_isWithin_n31 rfl rfl rfl (hG.2 _ (List.mem_of_getElem? (i := 7) rfl)) (hts (.initialized RX6) (by decide +kernel)) (by decide +kernel) ⟨Nat.le_of_ble_eq_true rfl, Nat.le_of_ble_eq_true rfl⟩, hts (.static yX6_isWithin) (by decide +kernel), trivial⟩ (z_preR (fun k q h => by simp at h) hG) rfl rfl hl.1 rfl (lv_room (Nat.le_of_ble_eq_true rfl)) dX1_isNumberOrOpen_6 ⟨Nat.zero_le _, Nat.zero_le _⟩) (fun r1 hr1 => ?_)
  rcases hr1 with ⟨rfl, c2⟩ | ⟨rfl, c2⟩
  · -- 6 t
    exact hret _ _ _ dX1_isNumberOrOpen_9 (Or.inl ⟨rfl, by assumption⟩)
  · -- 6 f
    exact hret _ _ _ dX1_isNumberOrOpen_9 (Or.inr ⟨rfl, by assumption⟩)
theorem iwX1_positionOf_X1_c_X1_positionOf : ∀ w ∈ wsX10, w ∈ wsX1_positionOf := by decide +kernel
set_option maxHeartbeats 1000000 in
set_option maxRecDepth 100000 in
theorem c_X1_positionOf (l : Launch) (E : zE) (o ap ah aw n f : Nat) (P : Nat → Nat) (hn : n ≤ 12) (hf : f ≤ n) : zR l yX1_positionOf wsX1_positionOf ({ frames := 2, cells := 0, slots := 0, locals := 43 }) E [.ref o, .int (nI f)] [(o, .inr (1, [.int (nI n), .ref ap, .ref ah, .ref aw])), (ap, .inl (E.2.1, 12, .inl (fun zz => nI (P zz))))] (fun r => r = nI (atN P f)) := by
  refine zR.start (own := RX1) rfl (by decide +kernel) rfl (Nat.le_of_ble_eq_true rfl) (fun _ _ => rfl) ?_
  intro pZ eZ sZ mZ argsZ belowZ methZ cZ QZ hF hret hP hG ls hl
  obtain ⟨hx, hb, hml, hown, hts⟩ := id hF
  have hl : lv_has ls 2 [(0, .ref o), (1, .int (nI f))] := hl
  refine lv_aload_n hx hb dX1_positionOf_0 rfl (lv_at hl 0 rfl) ?_
  refine lv_iload_n hx hb dX1_positionOf_1 rfl (lv_at hl 1 rfl) ?_
  have hPc := zP_sub (w := [(o, .inr (1, [.int (nI n), .ref ap, .ref ah, .ref aw]))]) hP [0] rfl
  refine z_rd (fun _ h => h) (va_runV (As := [.int (nI f)]) (rest := []) hF (c_X1_hasN l E o ap ah aw n f (by omega) (by omega)) (cwV 1 hts gX1_positionOf_X1_has rfl rfl rfl (by decide +kernel) ⟨Nat.le_of_ble_eq_true rfl, Nat.le_of_ble_eq_true rfl⟩) (z_preRV (va_recv hG.1 hP (ci := 1) (q0 := 0) rfl rfl) hPc hG) rfl rfl hl.1 rfl (lv_room (Nat.le_of_ble_eq_true rfl)) dX1_positionOf_2 ⟨Nat.zero_le _, Nat.zero_le _⟩) (fun r1 hr1 => ?_)
  rcases hr1 with ⟨rfl, c2⟩ | ⟨rfl, c2⟩
  · -- 2 t
    refine lv_if_eq (tgt := 19) hx hb dX1_positionOf_5 (by decide) (fun c => absurd c (by decide)) (fun _ => ?_)
    refine lv_aload_n hx hb dX1_positionOf_8 rfl (lv_at hl 0 rfl) ?_
    refine va_get (D := E.1) (ci := 1) (v := .ref ap) (C := RX1) (T := TX1) (N := 4) hx hb hts iwX1_positionOf_X1_c_X1_positionOf hown hG.1 hP 0 rfl rfl 1 (by decide) (hts (.fieldLink RX1 9 "FrettedStrings$Neck" "positions" "[I") (by decide +kernel)) (fun _ h9 => h9) rfl dX1_positionOf_9 ?_
    refine lv_iload_n hx hb dX1_positionOf_12 rfl (lv_at hl 1 rfl) ?_
    refine lv_iconst (v := nI 1) hx hb dX1_positionOf_13 (by decide) ?_
    refine z_isub (a := f) (b := 1) hx hb dX1_positionOf_14 (by omega) ?_
    refine z_iald (j := f - 1) (v := P (f - 1)) hx hb hG hP 1 rfl (by omega) (by decide) (rfl) dX1_positionOf_15 ?_
    refine lv_goto (tgt := 20) hx hb dX1_positionOf_16 (by decide) ?_
    exact hret _ _ _ dX1_positionOf_20 (by unfold atN; split <;> first | omega | rfl)
  · -- 2 f
    refine lv_if_eq (tgt := 19) hx hb dX1_positionOf_5 (by decide) (fun _ => ?_) (fun c => absurd c (by decide))
    refine lv_iconst (v := nI 0) hx hb dX1_positionOf_19 (by decide) ?_
    exact hret _ _ _ dX1_positionOf_20 (by unfold atN; split <;> first | omega | rfl)
theorem iwX1_heightOf_X1_c_X1_heightOf : ∀ w ∈ wsX10, w ∈ wsX1_heightOf := by decide +kernel
set_option maxHeartbeats 1000000 in
set_option maxRecDepth 100000 in
theorem c_X1_heightOf (l : Launch) (E : zE) (o ap ah aw n f : Nat) (Hh : Nat → Nat) (hn : n ≤ 12) (hf : f ≤ n) : zR l yX1_heightOf wsX1_heightOf ({ frames := 2, cells := 0, slots := 0, locals := 43 }) E [.ref o, .int (nI f)] [(o, .inr (1, [.int (nI n), .ref ap, .ref ah, .ref aw])), (ah, .inl (E.2.1, 12, .inl (fun zz => nI (Hh zz))))] (fun r => r = nI (atN Hh f)) := by
  refine zR.start (own := RX1) rfl (by decide +kernel) rfl (Nat.le_of_ble_eq_true rfl) (fun _ _ => rfl) ?_
  intro pZ eZ sZ mZ argsZ belowZ methZ cZ QZ hF hret hP hG ls hl
  obtain ⟨hx, hb, hml, hown, hts⟩ := id hF
  have hl : lv_has ls 2 [(0, .ref o), (1, .int (nI f))] := hl
  refine lv_aload_n hx hb dX1_heightOf_0 rfl (lv_at hl 0 rfl) ?_
  refine lv_iload_n hx hb dX1_heightOf_1 rfl (lv_at hl 1 rfl) ?_
  have hPc := zP_sub (w := [(o, .inr (1, [.int (nI n), .ref ap, .ref ah, .ref aw]))]) hP [0] rfl
  refine z_rd (fun _ h => h) (va_runV (As := [.int (nI f)]) (rest := []) hF (c_X1_hasN l E o ap ah aw n f (by omega) (by omega)) (cwV 1 hts gX1_heightOf_X1_has rfl rfl rfl (by decide +kernel) ⟨Nat.le_of_ble_eq_true rfl, Nat.le_of_ble_eq_true rfl⟩) (z_preRV (va_recv hG.1 hP (ci := 1) (q0 := 0) rfl rfl) hPc hG) rfl rfl hl.1 rfl (lv_room (Nat.le_of_ble_eq_true rfl)) dX1_heightOf_2 ⟨Nat.zero_le _, Nat.zero_le _⟩) (fun r1 hr1 => ?_)
  rcases hr1 with ⟨rfl, c2⟩ | ⟨rfl, c2⟩
  · -- 2 t
    refine lv_if_eq (tgt := 19) hx hb dX1_heightOf_5 (by decide) (fun c => absurd c (by decide)) (fun _ => ?_)
    refine lv_aload_n hx hb dX1_heightOf_8 rfl (lv_at hl 0 rfl) ?_
    refine va_get (D := E.1) (ci := 1) (v := .ref ah) (C := RX1) (T := TX1) (N := 4) hx hb hts iwX1_heightOf_X1_c_X1_heightOf hown hG.1 hP 0 rfl rfl 2 (by decide) (hts (.fieldLink RX1 15 "FrettedStrings$Neck" "heights" "[I") (by decide +kernel)) (fun _ h9 => h9) rfl dX1_heightOf_9 ?_
    refine lv_iload_n hx hb dX1_heightOf_12 rfl (lv_at hl 1 rfl) ?_
    refine lv_iconst (v := nI 1) hx hb dX1_heightOf_13 (by decide) ?_
    refine z_isub (a := f) (b := 1) hx hb dX1_heightOf_14 (by omega) ?_
    refine z_iald (j := f - 1) (v := Hh (f - 1)) hx hb hG hP 1 rfl (by omega) (by decide) (rfl) dX1_heightOf_15 ?_
    refine lv_goto (tgt := 20) hx hb dX1_heightOf_16 (by decide) ?_
    exact hret _ _ _ dX1_heightOf_20 (by unfold atN; split <;> first | omega | rfl)
  · -- 2 f
    refine lv_if_eq (tgt := 19) hx hb dX1_heightOf_5 (by decide) (fun _ => ?_) (fun c => absurd c (by decide))
    refine lv_iconst (v := nI 0) hx hb dX1_heightOf_19 (by decide) ?_
    exact hret _ _ _ dX1_heightOf_20 (by unfold atN; split <;> first | omega | rfl)
theorem iwX1_wearOf_X1_c_X1_wearOf : ∀ w ∈ wsX10, w ∈ wsX1_wearOf := by decide +kernel
set_option maxHeartbeats 1000000 in
set_option maxRecDepth 100000 in
theorem c_X1_wearOf (l : Launch) (E : zE) (o ap ah aw n f : Nat) (Wr : Nat → Nat) (hn : n ≤ 12) (hf : f ≤ n) : zR l yX1_wearOf wsX1_wearOf ({ frames := 2, cells := 0, slots := 0, locals := 43 }) E [.ref o, .int (nI f)] [(o, .inr (1, [.int (nI n), .ref ap, .ref ah, .ref aw])), (aw, .inl (E.2.1, 12, .inl (fun zz => nI (Wr zz))))] (fun r => r = nI (atN Wr f)) := by
  refine zR.start (own := RX1) rfl (by decide +kernel) rfl (Nat.le_of_ble_eq_true rfl) (fun _ _ => rfl) ?_
  intro pZ eZ sZ mZ argsZ belowZ methZ cZ QZ hF hret hP hG ls hl
  obtain ⟨hx, hb, hml, hown, hts⟩ := id hF
  have hl : lv_has ls 2 [(0, .ref o), (1, .int (nI f))] := hl
  refine lv_aload_n hx hb dX1_wearOf_0 rfl (lv_at hl 0 rfl) ?_
  refine lv_iload_n hx hb dX1_wearOf_1 rfl (lv_at hl 1 rfl) ?_
  have hPc := zP_sub (w := [(o, .inr (1, [.int (nI n), .ref ap, .ref ah, .ref aw]))]) hP [0] rfl
  refine z_rd (fun _ h => h) (va_runV (As := [.int (nI f)]) (rest := []) hF (c_X1_hasN l E o ap ah aw n f (by omega) (by omega)) (cwV 1 hts gX1_wearOf_X1_has rfl rfl rfl (by decide +kernel) ⟨Nat.le_of_ble_eq_true rfl, Nat.le_of_ble_eq_true rfl⟩) (z_preRV (va_recv hG.1 hP (ci := 1) (q0 := 0) rfl rfl) hPc hG) rfl rfl hl.1 rfl (lv_room (Nat.le_of_ble_eq_true rfl)) dX1_wearOf_2 ⟨Nat.zero_le _, Nat.zero_le _⟩) (fun r1 hr1 => ?_)
  rcases hr1 with ⟨rfl, c2⟩ | ⟨rfl, c2⟩
  · -- 2 t
    refine lv_if_eq (tgt := 19) hx hb dX1_wearOf_5 (by decide) (fun c => absurd c (by decide)) (fun _ => ?_)
    refine lv_aload_n hx hb dX1_wearOf_8 rfl (lv_at hl 0 rfl) ?_
    refine va_get (D := E.1) (ci := 1) (v := .ref aw) (C := RX1) (T := TX1) (N := 4) hx hb hts iwX1_wearOf_X1_c_X1_wearOf hown hG.1 hP 0 rfl rfl 3 (by decide) (hts (.fieldLink RX1 18 "FrettedStrings$Neck" "wears" "[I") (by decide +kernel)) (fun _ h9 => h9) rfl dX1_wearOf_9 ?_
    refine lv_iload_n hx hb dX1_wearOf_12 rfl (lv_at hl 1 rfl) ?_
    refine lv_iconst (v := nI 1) hx hb dX1_wearOf_13 (by decide) ?_
    refine z_isub (a := f) (b := 1) hx hb dX1_wearOf_14 (by omega) ?_
    refine z_iald (j := f - 1) (v := Wr (f - 1)) hx hb hG hP 1 rfl (by omega) (by decide) (rfl) dX1_wearOf_15 ?_
    refine lv_goto (tgt := 20) hx hb dX1_wearOf_16 (by decide) ?_
    exact hret _ _ _ dX1_wearOf_20 (by unfold atN; split <;> first | omega | rfl)
  · -- 2 f
    refine lv_if_eq (tgt := 19) hx hb dX1_wearOf_5 (by decide) (fun _ => ?_) (fun c => absurd c (by decide))
    refine lv_iconst (v := nI 0) hx hb dX1_wearOf_19 (by decide) ?_
    exact hret _ _ _ dX1_wearOf_20 (by unfold atN; split <;> first | omega | rfl)
theorem iwX1_isTaken_X1_c_X1_isTaken : ∀ w ∈ wsX10, w ∈ wsX1_isTaken := by decide +kernel
set_option maxHeartbeats 1000000 in
set_option maxRecDepth 100000 in
theorem c_X1_isTaken (l : Launch) (E : zE) (o ap ah aw n : Nat) (P : Nat → Nat) (x : Int32) (hn : n ≤ 12) : zR l yX1_isTaken wsX1_isTaken ({ frames := 3, cells := 0, slots := 0, locals := 64 }) E [.ref o, .int x] [(o, .inr (1, [.int (nI n), .ref ap, .ref ah, .ref aw])), (ap, .inl (E.2.1, 12, .inl (fun zz => nI (P zz))))] (fun r => (r = nI 1 ∧ (∃ i, i < n ∧ nI (P i) = x)) ∨ (r = nI 0 ∧ ¬ (∃ i, i < n ∧ nI (P i) = x))) := by
  refine zR.start (own := RX1) rfl (by decide +kernel) rfl (Nat.le_of_ble_eq_true rfl) (z_nar) ?_
  intro pZ eZ sZ mZ argsZ belowZ methZ cZ QZ hF hret hP hG ls hl
  obtain ⟨hx, hb, hml, hown, hts⟩ := id hF
  have hl : lv_has ls 3 [(0, .ref o), (1, .int x)] := hl
  refine lv_iconst (v := nI 1) hx hb dX1_isTaken_0 (by decide) ?_
  refine lv_istore_n (lv' := [(2, .int (nI 1)), (0, .ref o), (1, .int x)]) hx hb dX1_isTaken_1 rfl hl (by decide) rfl (fun ls hl => ?_)
  have L2_1 : ∀ (fuelZ : Nat) (j : Nat), n + 1 - j < fuelZ → (1 ≤ j) → (j ≤ n + 1) → (∀ i, i + 1 < j → nI (P i) ≠ x) → ∀ ls : Array Slot, lv_has ls 3 [(2, .int (nI j)), (0, .ref o), (1, .int x)] → W pZ l eZ ({ frames := 3, cells := 0, slots := 0, locals := 64 }) sZ mZ argsZ belowZ methZ cZ sZ.heap [] 0 0 QZ (F0 mZ 2 ls []) := by
    intro fuelZ
    induction fuelZ with
    | zero => intro j hm; exact absurd hm (Nat.not_lt_zero _)
    | succ fuelZ ih2 =>
      intro j hm i0 i1 i2 ls hl
      refine lv_iload_n hx hb dX1_isTaken_2 rfl (lv_at hl 0 rfl) ?_
      refine lv_aload_n hx hb dX1_isTaken_3 rfl (lv_at hl 1 rfl) ?_
      refine va_get (D := E.1) (ci := 1) (v := .int (nI n)) (C := RX1) (T := TX1) (N := 4) hx hb hts iwX1_isTaken_X1_c_X1_isTaken hown hG.1 hP 0 rfl rfl 0 (by decide) (hts (.fieldLink RX1 21 "FrettedStrings$Neck" "frets" "I") (by decide +kernel)) (fun _ h9 => h9) rfl dX1_isTaken_4 ?_
      refine z_icmp_gt (a := j) (b := n) (tgt := 27) hx hb dX1_isTaken_7 (by decide) (by omega) (by omega) (fun c2 => ?_) (fun c2 => ?_)
      · -- 7 t
        refine lv_iconst (v := nI 0) hx hb dX1_isTaken_27 (by decide) ?_
        exact hret _ _ _ dX1_isTaken_28 (Or.inr ⟨rfl, by rintro ⟨i, q1, q2⟩; exact i2 i (by omega) q2⟩)
      · -- 7 f
        refine lv_aload_n hx hb dX1_isTaken_10 rfl (lv_at hl 1 rfl) ?_
        refine lv_iload_n hx hb dX1_isTaken_11 rfl (lv_at hl 0 rfl) ?_
        have hPc := zP_sub (w := [(o, .inr (1, [.int (nI n), .ref ap, .ref ah, .ref aw])), (ap, .inl (E.2.1, 12, .inl (fun zz => nI (P zz))))]) hP [0, 1] rfl
        refine z_rd (fun _ h => h) (va_runV (As := [.int (nI j)]) (rest := []) hF (c_X1_positionOf l E o ap ah aw n j P (by omega) (by omega)) (cwV 1 hts gX1_isTaken_X1_positionOf rfl rfl rfl (by decide +kernel) ⟨Nat.le_of_ble_eq_true rfl, Nat.le_of_ble_eq_true rfl⟩) (z_preRV (va_recv hG.1 hP (ci := 1) (q0 := 0) rfl rfl) hPc hG) rfl rfl hl.1 rfl (lv_room (Nat.le_of_ble_eq_true rfl)) dX1_isTaken_12 ⟨Nat.zero_le _, Nat.zero_le _⟩) (fun r3 hr3 => ?_)
        subst hr3
        refine lv_iload_n hx hb dX1_isTaken_15 rfl (lv_at hl 2 rfl) ?_
        refine lv_icmp_ne (tgt := 21) hx hb dX1_isTaken_16 (by decide) (fun c4 => ?_) (fun c4 => ?_)
        · -- 16 t
          refine z_iinc (k := 0) (d := 1) (lv' := [(2, .int (nI (j + 1))), (0, .ref o), (1, .int x)]) hx hb dX1_isTaken_21 (by decide) hl rfl (by decide) rfl (fun ls hl => ?_)
          refine lv_goto (tgt := 2) hx hb dX1_isTaken_24 (by decide) ?_
          exact ih2 (j + 1) (by omega) (by omega) (by omega) (taken_s i0 i2 (by assumption)) _ (lv_sub hl [0, 1, 2] rfl)
        · -- 16 f
          refine lv_iconst (v := nI 1) hx hb dX1_isTaken_19 (by decide) ?_
          exact hret _ _ _ dX1_isTaken_20 (Or.inl ⟨rfl, ⟨j - 1, by omega, by rw [← atN_pos (P := P) (f := j) (by omega)]; assumption⟩⟩)
  exact L2_1 ((n + 1 - 1) + 1) 1 (Nat.lt_succ_self _) (by omega) (by omega) (fun i q => by omega) _ (lv_sub hl [0, 1, 2] rfl)
set_option maxHeartbeats 1000000 in
set_option maxRecDepth 100000 in
theorem c_X1_lineAt (l : Launch) (E : zE) (o ap ah aw n f x : Nat) (P Hh : Nat → Nat) (hn : n ≤ 12) (hf : f ≤ n) (hp : atN P f ≤ 2400) (hh : atN Hh f ≤ 2000) (hx2 : x ≤ 2520) : zR l yX1_lineAt wsX1_lineAt ({ frames := 3, cells := 0, slots := 0, locals := 64 }) E [.ref o, .int (nI f), .int (nI x)] [(o, .inr (1, [.int (nI n), .ref ap, .ref ah, .ref aw])), (ap, .inl (E.2.1, 12, .inl (fun zz => nI (P zz)))), (ah, .inl (E.2.1, 12, .inl (fun zz => nI (Hh zz))))] (fun r => r = Int32.ofInt (lineZ (atN Hh f) (atN P f) x)) := by
  refine zR.start (own := RX1) rfl (by decide +kernel) rfl (Nat.le_of_ble_eq_true rfl) (fun _ _ => rfl) ?_
  intro pZ eZ sZ mZ argsZ belowZ methZ cZ QZ hF hret hP hG ls hl
  obtain ⟨hx, hb, hml, hown, hts⟩ := id hF
  have hl : lv_has ls 6 [(0, .ref o), (1, .int (nI f)), (2, .int (nI x))] := hl
  refine lv_aload_n hx hb dX1_lineAt_0 rfl (lv_at hl 0 rfl) ?_
  refine lv_iload_n hx hb dX1_lineAt_1 rfl (lv_at hl 1 rfl) ?_
  have hPc := zP_sub (w := [(o, .inr (1, [.int (nI n), .ref ap, .ref ah, .ref aw])), (ap, .inl (E.2.1, 12, .inl (fun zz => nI (P zz))))]) hP [0, 1] rfl
  refine z_rd (fun _ h => h) (va_runV (As := [.int (nI f)]) (rest := []) hF (c_X1_positionOf l E o ap ah aw n f P (by omega) (by omega)) (cwV 1 hts gX1_lineAt_X1_positionOf rfl rfl rfl (by decide +kernel) ⟨Nat.le_of_ble_eq_true rfl, Nat.le_of_ble_eq_true rfl⟩) (z_preRV (va_recv hG.1 hP (ci := 1) (q0 := 0) rfl rfl) hPc hG) rfl rfl hl.1 rfl (lv_room (Nat.le_of_ble_eq_true rfl)) dX1_lineAt_2 ⟨Nat.zero_le _, Nat.zero_le _⟩) (fun r1 hr1 => ?_)
  subst hr1
  refine lv_istore_n (lv' := [(3, .int (nI (atN P f))), (0, .ref o), (1, .int (nI f)), (2, .int (nI x))]) hx hb dX1_lineAt_5 rfl hl (by decide) rfl (fun ls hl => ?_)
  refine lv_aload_n hx hb dX1_lineAt_6 rfl (lv_at hl 1 rfl) ?_
  refine lv_iload_n hx hb dX1_lineAt_7 rfl (lv_at hl 2 rfl) ?_
  have hPc := zP_sub (w := [(o, .inr (1, [.int (nI n), .ref ap, .ref ah, .ref aw])), (ah, .inl (E.2.1, 12, .inl (fun zz => nI (Hh zz))))]) hP [0, 2] rfl
  refine z_rd (fun _ h => h) (va_runV (As := [.int (nI f)]) (rest := []) hF (c_X1_heightOf l E o ap ah aw n f Hh (by omega) (by omega)) (cwV 1 hts gX1_lineAt_X1_heightOf rfl rfl rfl (by decide +kernel) ⟨Nat.le_of_ble_eq_true rfl, Nat.le_of_ble_eq_true rfl⟩) (z_preRV (va_recv hG.1 hP (ci := 1) (q0 := 0) rfl rfl) hPc hG) rfl rfl hl.1 rfl (lv_room (Nat.le_of_ble_eq_true rfl)) dX1_lineAt_8 ⟨Nat.zero_le _, Nat.zero_le _⟩) (fun r2 hr2 => ?_)
  subst hr2
  refine lv_istore (lv' := [(4, .int (nI (atN Hh f))), (3, .int (nI (atN P f))), (0, .ref o), (1, .int (nI f)), (2, .int (nI x))]) hx hb dX1_lineAt_11 hl (by decide) rfl (fun ls hl => ?_)
  refine lv_sipush (v := nI 2520) hx hb dX1_lineAt_13 (by decide) ?_
  refine lv_iload_n hx hb dX1_lineAt_16 rfl (lv_at hl 1 rfl) ?_
  refine z_isub (a := 2520) (b := atN P f) hx hb dX1_lineAt_17 (by omega) ?_
  refine lv_istore (lv' := [(5, .int (nI (2520 - (atN P f)))), (4, .int (nI (atN Hh f))), (3, .int (nI (atN P f))), (0, .ref o), (1, .int (nI f)), (2, .int (nI x))]) hx hb dX1_lineAt_18 hl (by decide) rfl (fun ls hl => ?_)
  refine lv_iload hx hb dX1_lineAt_20 (lv_at hl 0 rfl) ?_
  refine lv_iconst (v := nI 1) hx hb dX1_lineAt_22 (by decide) ?_
  refine z_icmp_ge (a := 2520 - (atN P f)) (b := 1) (tgt := 29) hx hb dX1_lineAt_23 (by decide) (by omega) (by omega) (fun c3 => ?_) (fun c3 => ?_)
  · -- 23 t
    refine lv_iload hx hb dX1_lineAt_29 (lv_at hl 1 rfl) ?_
    refine lv_sipush (v := nI 1500) hx hb dX1_lineAt_31 (by decide) ?_
    refine lv_iload hx hb dX1_lineAt_34 (lv_at hl 1 rfl) ?_
    refine lv_isub hx hb dX1_lineAt_36 ?_
    refine lv_iload_n hx hb dX1_lineAt_37 rfl (lv_at hl 5 rfl) ?_
    refine lv_iload_n hx hb dX1_lineAt_38 rfl (lv_at hl 2 rfl) ?_
    refine lv_isub hx hb dX1_lineAt_39 ?_
    refine lv_imul hx hb dX1_lineAt_40 ?_
    refine lv_iload hx hb dX1_lineAt_41 (lv_at hl 0 rfl) ?_
    refine z_rd (fun _ h => h) (va_runS (As := [.int (((nI 1500) - (nI (atN Hh f))) * ((nI x) - (nI (atN P f)))), .int (nI (2520 - (atN P f)))]) (rest := [.int (nI (atN Hh f))]) hF (c_floorDiv l E (((nI 1500) - (nI (atN Hh f))) * ((nI x) - (nI (atN P f)))) (nI (2520 - (atN P f))) (by rw [nI_toInt (by omega)]; omega)) (va_cwS 2 hts gX1_lineAt_J9_floorDiv_7cf53 rfl rfl rfl (by decide +kernel) ⟨Nat.le_of_ble_eq_true rfl, Nat.le_of_ble_eq_true rfl⟩) (z_preR (fun k q h => by simp at h) hG) rfl rfl hl.1 rfl (lv_room (Nat.le_of_ble_eq_true rfl)) dX1_lineAt_43 ⟨Nat.zero_le _, Nat.zero_le _⟩) (fun r4 hr4 => ?_)
    subst hr4
    refine lv_iadd hx hb dX1_lineAt_46 ?_
    exact hret _ _ _ dX1_lineAt_47 (line_eq hh hp hx2)
  · -- 23 f
    omega
theorem iwX1_sourceFor_X1_c_X1_sourceFor : ∀ w ∈ wsX10, w ∈ wsX1_sourceFor := by decide +kernel
set_option maxHeartbeats 1000000 in
set_option maxRecDepth 100000 in
theorem c_X1_sourceFor (l : Launch) (E : zE) (o ap ah aw n f : Nat) (P Hh : Nat → Nat) (hn : n ≤ 12) (hf : f ≤ n) (hPb : ∀ i, i < 12 → P i ≤ 2400) (hHb : ∀ i, i < 12 → Hh i ≤ 2000) : zR l yX1_sourceFor wsX1_sourceFor ({ frames := 4, cells := 0, slots := 0, locals := 89 }) E [.ref o, .int (nI f)] [(o, .inr (1, [.int (nI n), .ref ap, .ref ah, .ref aw])), (ap, .inl (E.2.1, 12, .inl (fun zz => nI (P zz)))), (ah, .inl (E.2.1, 12, .inl (fun zz => nI (Hh zz))))] (fun r => r = nI (srcN P Hh n f)) := by
  refine zR.start (own := RX1) rfl (by decide +kernel) rfl (Nat.le_of_ble_eq_true rfl) (fun _ _ => rfl) ?_
  intro pZ eZ sZ mZ argsZ belowZ methZ cZ QZ hF hret hP hG ls hl
  obtain ⟨hx, hb, hml, hown, hts⟩ := id hF
  have hl : lv_has ls 6 [(0, .ref o), (1, .int (nI f))] := hl
  refine lv_aload_n hx hb dX1_sourceFor_0 rfl (lv_at hl 0 rfl) ?_
  refine lv_iload_n hx hb dX1_sourceFor_1 rfl (lv_at hl 1 rfl) ?_
  have hPc := zP_sub (w := [(o, .inr (1, [.int (nI n), .ref ap, .ref ah, .ref aw]))]) hP [0] rfl
  refine z_rd (fun _ h => h) (va_runV (As := [.int (nI f)]) (rest := []) hF (c_X1_hasN l E o ap ah aw n f (by omega) (by omega)) (cwV 1 hts gX1_sourceFor_X1_has rfl rfl rfl (by decide +kernel) ⟨Nat.le_of_ble_eq_true rfl, Nat.le_of_ble_eq_true rfl⟩) (z_preRV (va_recv hG.1 hP (ci := 1) (q0 := 0) rfl rfl) hPc hG) rfl rfl hl.1 rfl (lv_room (Nat.le_of_ble_eq_true rfl)) dX1_sourceFor_2 ⟨Nat.zero_le _, Nat.zero_le _⟩) (fun r1 hr1 => ?_)
  rcases hr1 with ⟨rfl, c2⟩ | ⟨rfl, c2⟩
  · -- 2 t
    refine lv_if_ne (tgt := 10) hx hb dX1_sourceFor_5 (by decide) (fun _ => ?_) (fun c => absurd c (by decide))
    refine lv_iload_n hx hb dX1_sourceFor_10 rfl (lv_at hl 1 rfl) ?_
    refine lv_istore_n (lv' := [(2, .int (nI f)), (0, .ref o), (1, .int (nI f))]) hx hb dX1_sourceFor_11 rfl hl (by decide) rfl (fun ls hl => ?_)
    refine lv_iconst (v := nI 0) hx hb dX1_sourceFor_12 (by decide) ?_
    refine lv_istore_n (lv' := [(3, .int (nI 0)), (2, .int (nI f)), (0, .ref o), (1, .int (nI f))]) hx hb dX1_sourceFor_13 rfl hl (by decide) rfl (fun ls hl => ?_)
    refine lv_iload_n hx hb dX1_sourceFor_14 rfl (lv_at hl 3 rfl) ?_
    refine lv_iconst (v := nI 1) hx hb dX1_sourceFor_15 (by decide) ?_
    refine z_iadd (a := f) (b := 1) hx hb dX1_sourceFor_16 ?_
    refine lv_istore (lv' := [(4, .int (nI (f + 1))), (3, .int (nI 0)), (2, .int (nI f)), (0, .ref o), (1, .int (nI f))]) hx hb dX1_sourceFor_17 hl (by decide) rfl (fun ls hl => ?_)
    have L19_3 : ∀ (fuelZ : Nat) (g : Nat), n + 1 - g < fuelZ → (f + 1 ≤ g) → (g ≤ n + 1) → ∀ ls : Array Slot, lv_has ls 6 [(4, .int (nI g)), (3, .int (nI ((srcL P Hh f (g - f - 1)).2))), (2, .int (nI ((srcL P Hh f (g - f - 1)).1))), (0, .ref o), (1, .int (nI f))] → W pZ l eZ ({ frames := 4, cells := 0, slots := 0, locals := 89 }) sZ mZ argsZ belowZ methZ cZ sZ.heap [] 0 0 QZ (F0 mZ 19 ls []) := by
      intro fuelZ
      induction fuelZ with
      | zero => intro g hm; exact absurd hm (Nat.not_lt_zero _)
      | succ fuelZ ih19 =>
        intro g hm i0 i1 ls hl
        refine lv_iload hx hb dX1_sourceFor_19 (lv_at hl 0 rfl) ?_
        refine lv_aload_n hx hb dX1_sourceFor_21 rfl (lv_at hl 3 rfl) ?_
        refine va_get (D := E.1) (ci := 1) (v := .int (nI n)) (C := RX1) (T := TX1) (N := 4) hx hb hts iwX1_sourceFor_X1_c_X1_sourceFor hown hG.1 hP 0 rfl rfl 0 (by decide) (hts (.fieldLink RX1 21 "FrettedStrings$Neck" "frets" "I") (by decide +kernel)) (fun _ h9 => h9) rfl dX1_sourceFor_22 ?_
        refine z_icmp_gt (a := g) (b := n) (tgt := 66) hx hb dX1_sourceFor_25 (by decide) (by omega) (by omega) (fun c4 => ?_) (fun c4 => ?_)
        · -- 25 t
          refine lv_iload_n hx hb dX1_sourceFor_66 rfl (lv_at hl 2 rfl) ?_
          exact hret _ _ _ dX1_sourceFor_67 (by unfold srcN; rw [if_neg (by omega), show n - f = g - f - 1 by omega])
        · -- 25 f
          refine lv_aload_n hx hb dX1_sourceFor_28 rfl (lv_at hl 3 rfl) ?_
          refine lv_iload hx hb dX1_sourceFor_29 (lv_at hl 0 rfl) ?_
          have hPc := zP_sub (w := [(o, .inr (1, [.int (nI n), .ref ap, .ref ah, .ref aw])), (ah, .inl (E.2.1, 12, .inl (fun zz => nI (Hh zz))))]) hP [0, 2] rfl
          refine z_rd (fun _ h => h) (va_runV (As := [.int (nI g)]) (rest := []) hF (c_X1_heightOf l E o ap ah aw n g Hh (by omega) (by omega)) (cwV 1 hts gX1_sourceFor_X1_heightOf rfl rfl rfl (by decide +kernel) ⟨Nat.le_of_ble_eq_true rfl, Nat.le_of_ble_eq_true rfl⟩) (z_preRV (va_recv hG.1 hP (ci := 1) (q0 := 0) rfl rfl) hPc hG) rfl rfl hl.1 rfl (lv_room (Nat.le_of_ble_eq_true rfl)) dX1_sourceFor_31 ⟨Nat.zero_le _, Nat.zero_le _⟩) (fun r5 hr5 => ?_)
          subst hr5
          refine lv_aload_n hx hb dX1_sourceFor_34 rfl (lv_at hl 3 rfl) ?_
          refine lv_iload_n hx hb dX1_sourceFor_35 rfl (lv_at hl 4 rfl) ?_
          refine lv_aload_n hx hb dX1_sourceFor_36 rfl (lv_at hl 3 rfl) ?_
          refine lv_iload hx hb dX1_sourceFor_37 (lv_at hl 0 rfl) ?_
          have hPc := zP_sub (w := [(o, .inr (1, [.int (nI n), .ref ap, .ref ah, .ref aw])), (ap, .inl (E.2.1, 12, .inl (fun zz => nI (P zz))))]) hP [0, 1] rfl
          refine z_rd (fun _ h => h) (va_runV (As := [.int (nI g)]) (rest := [.int (nI f), .ref o, .int (nI (atN Hh g))]) hF (c_X1_positionOf l E o ap ah aw n g P (by omega) (by omega)) (cwV 1 hts gX1_sourceFor_X1_positionOf rfl rfl rfl (by decide +kernel) ⟨Nat.le_of_ble_eq_true rfl, Nat.le_of_ble_eq_true rfl⟩) (z_preRV (va_recv hG.1 hP (ci := 1) (q0 := 0) rfl rfl) hPc hG) rfl rfl hl.1 rfl (lv_room (Nat.le_of_ble_eq_true rfl)) dX1_sourceFor_39 ⟨Nat.zero_le _, Nat.zero_le _⟩) (fun r6 hr6 => ?_)
          subst hr6
          have hPc := zP_sub (w := [(o, .inr (1, [.int (nI n), .ref ap, .ref ah, .ref aw])), (ap, .inl (E.2.1, 12, .inl (fun zz => nI (P zz)))), (ah, .inl (E.2.1, 12, .inl (fun zz => nI (Hh zz))))]) hP [0, 1, 2] rfl
          refine z_rd (fun _ h => h) (va_runV (As := [.int (nI f), .int (nI (atN P g))]) (rest := [.int (nI (atN Hh g))]) hF (c_X1_lineAt l E o ap ah aw n f (atN P g) P Hh (by omega) (by omega) (atN_le hPb (by omega)) (atN_le hHb (by omega)) (Nat.le_trans (atN_le hPb (by omega)) (by omega))) (cwV 2 hts gX1_sourceFor_X1_lineAt rfl rfl rfl (by decide +kernel) ⟨Nat.le_of_ble_eq_true rfl, Nat.le_of_ble_eq_true rfl⟩) (z_preRV (va_recv hG.1 hP (ci := 1) (q0 := 0) rfl rfl) hPc hG) rfl rfl hl.1 rfl (lv_room (Nat.le_of_ble_eq_true rfl)) dX1_sourceFor_42 ⟨Nat.zero_le _, Nat.zero_le _⟩) (fun r7 hr7 => ?_)
          subst hr7
          refine lv_isub hx hb dX1_sourceFor_45 ?_
          refine lv_topi (fun x8 ex8 => ?_)
          refine lv_istore (lv' := [(5, .int x8), (4, .int (nI g)), (3, .int (nI ((srcL P Hh f (g - f - 1)).2))), (2, .int (nI ((srcL P Hh f (g - f - 1)).1))), (0, .ref o), (1, .int (nI f))]) hx hb dX1_sourceFor_46 hl (by decide) rfl (fun ls hl => ?_)
          refine lv_iload hx hb dX1_sourceFor_48 (lv_at hl 0 rfl) ?_
          refine lv_iload_n hx hb dX1_sourceFor_50 rfl (lv_at hl 2 rfl) ?_
          refine lv_icmp_le (tgt := 60) hx hb dX1_sourceFor_51 (by decide) (fun c9 => ?_) (fun c9 => ?_)
          · -- 51 t
            refine z_iinc (k := 1) (d := 1) (lv' := [(4, .int (nI (g + 1))), (5, .int x8), (3, .int (nI ((srcL P Hh f (g - f - 1)).2))), (2, .int (nI ((srcL P Hh f (g - f - 1)).1))), (0, .ref o), (1, .int (nI f))]) hx hb dX1_sourceFor_60 (by decide) hl rfl (by decide) rfl (fun ls hl => ?_)
            refine lv_goto (tgt := 19) hx hb dX1_sourceFor_63 (by decide) ?_
            have e10 : nI ((srcL P Hh f (g - f - 1)).2) = nI ((srcL P Hh f ((g + 1) - f - 1)).2) := by first | rw [src_t hPb hHb (by omega) i0 (by omega) (by assumption) (by assumption)] | exact (src_f hPb hHb (by omega) i0 (by omega) (by assumption) (by assumption)).2
            have hl : lv_has ls 6 [(4, .int (nI (g + 1))), (5, .int x8), (3, .int (nI ((srcL P Hh f ((g + 1) - f - 1)).2))), (2, .int (nI ((srcL P Hh f (g - f - 1)).1))), (0, .ref o), (1, .int (nI f))] := Eq.subst (motive := fun XX : Int32 => lv_has ls 6 [(4, .int (nI (g + 1))), (5, .int x8), (3, .int XX), (2, .int (nI ((srcL P Hh f (g - f - 1)).1))), (0, .ref o), (1, .int (nI f))]) e10 hl
            have e11 : nI ((srcL P Hh f (g - f - 1)).1) = nI ((srcL P Hh f ((g + 1) - f - 1)).1) := by first | rw [src_t hPb hHb (by omega) i0 (by omega) (by assumption) (by assumption)] | rw [(src_f hPb hHb (by omega) i0 (by omega) (by assumption) (by assumption)).1]
            have hl : lv_has ls 6 [(4, .int (nI (g + 1))), (5, .int x8), (3, .int (nI ((srcL P Hh f ((g + 1) - f - 1)).2))), (2, .int (nI ((srcL P Hh f ((g + 1) - f - 1)).1))), (0, .ref o), (1, .int (nI f))] := Eq.subst (motive := fun XX : Int32 => lv_has ls 6 [(4, .int (nI (g + 1))), (5, .int x8), (3, .int (nI ((srcL P Hh f ((g + 1) - f - 1)).2))), (2, .int XX), (0, .ref o), (1, .int (nI f))]) e11 hl
            exact ih19 (g + 1) (by omega) (by omega) (by omega) _ (lv_sub hl [0, 2, 3, 4, 5] rfl)
          · -- 51 f
            refine lv_iload hx hb dX1_sourceFor_54 (lv_at hl 0 rfl) ?_
            refine lv_istore_n (lv' := [(3, .int x8), (5, .int x8), (4, .int (nI g)), (2, .int (nI ((srcL P Hh f (g - f - 1)).1))), (0, .ref o), (1, .int (nI f))]) hx hb dX1_sourceFor_56 rfl hl (by decide) rfl (fun ls hl => ?_)
            refine lv_iload hx hb dX1_sourceFor_57 (lv_at hl 2 rfl) ?_
            refine lv_istore_n (lv' := [(2, .int (nI g)), (3, .int x8), (5, .int x8), (4, .int (nI g)), (0, .ref o), (1, .int (nI f))]) hx hb dX1_sourceFor_59 rfl hl (by decide) rfl (fun ls hl => ?_)
            refine z_iinc (k := 3) (d := 1) (lv' := [(4, .int (nI (g + 1))), (2, .int (nI g)), (3, .int x8), (5, .int x8), (0, .ref o), (1, .int (nI f))]) hx hb dX1_sourceFor_60 (by decide) hl rfl (by decide) rfl (fun ls hl => ?_)
            refine lv_goto (tgt := 19) hx hb dX1_sourceFor_63 (by decide) ?_
            have e12 : x8 = nI ((srcL P Hh f ((g + 1) - f - 1)).2) := by first | rw [src_t hPb hHb (by omega) i0 (by omega) (by assumption) (by assumption)] | exact (src_f hPb hHb (by omega) i0 (by omega) (by assumption) (by assumption)).2
            have hl : lv_has ls 6 [(4, .int (nI (g + 1))), (2, .int (nI g)), (3, .int (nI ((srcL P Hh f ((g + 1) - f - 1)).2))), (5, .int x8), (0, .ref o), (1, .int (nI f))] := Eq.subst (motive := fun XX : Int32 => lv_has ls 6 [(4, .int (nI (g + 1))), (2, .int (nI g)), (3, .int XX), (5, .int x8), (0, .ref o), (1, .int (nI f))]) e12 hl
            have e13 : nI g = nI ((srcL P Hh f ((g + 1) - f - 1)).1) := by first | rw [src_t hPb hHb (by omega) i0 (by omega) (by assumption) (by assumption)] | rw [(src_f hPb hHb (by omega) i0 (by omega) (by assumption) (by assumption)).1]
            have hl : lv_has ls 6 [(4, .int (nI (g + 1))), (2, .int (nI ((srcL P Hh f ((g + 1) - f - 1)).1))), (3, .int (nI ((srcL P Hh f ((g + 1) - f - 1)).2))), (5, .int x8), (0, .ref o), (1, .int (nI f))] := Eq.subst (motive := fun XX : Int32 => lv_has ls 6 [(4, .int (nI (g + 1))), (2, .int XX), (3, .int (nI ((srcL P Hh f ((g + 1) - f - 1)).2))), (5, .int x8), (0, .ref o), (1, .int (nI f))]) e13 hl
            exact ih19 (g + 1) (by omega) (by omega) (by omega) _ (lv_sub hl [0, 2, 1, 4, 5] rfl)
    have e14 : nI 0 = nI ((srcL P Hh f ((f + 1) - f - 1)).2) := by rw [show f + 1 - f - 1 = 0 by omega]; rfl
    have hl : lv_has ls 6 [(4, .int (nI (f + 1))), (3, .int (nI ((srcL P Hh f ((f + 1) - f - 1)).2))), (2, .int (nI f)), (0, .ref o), (1, .int (nI f))] := Eq.subst (motive := fun XX : Int32 => lv_has ls 6 [(4, .int (nI (f + 1))), (3, .int XX), (2, .int (nI f)), (0, .ref o), (1, .int (nI f))]) e14 hl
    have e15 : nI f = nI ((srcL P Hh f ((f + 1) - f - 1)).1) := by rw [show f + 1 - f - 1 = 0 by omega]; rfl
    have hl : lv_has ls 6 [(4, .int (nI (f + 1))), (3, .int (nI ((srcL P Hh f ((f + 1) - f - 1)).2))), (2, .int (nI ((srcL P Hh f ((f + 1) - f - 1)).1))), (0, .ref o), (1, .int (nI f))] := Eq.subst (motive := fun XX : Int32 => lv_has ls 6 [(4, .int (nI (f + 1))), (3, .int (nI ((srcL P Hh f ((f + 1) - f - 1)).2))), (2, .int XX), (0, .ref o), (1, .int (nI f))]) e15 hl
    exact L19_3 ((n + 1 - (f + 1)) + 1) (f + 1) (Nat.lt_succ_self _) (by omega) (by omega) _ (lv_sub hl [0, 1, 2, 3, 4] rfl)
  · -- 2 f
    refine lv_if_ne (tgt := 10) hx hb dX1_sourceFor_5 (by decide) (fun c => absurd c (by decide)) (fun _ => ?_)
    refine lv_iconst (v := nI 0) hx hb dX1_sourceFor_8 (by decide) ?_
    exact hret _ _ _ dX1_sourceFor_9 (by unfold srcN; rw [if_pos (by omega)])
set_option maxHeartbeats 1000000 in
set_option maxRecDepth 100000 in
theorem c_X1_mostHeightFor (l : Launch) (E : zE) (o ap ah aw n f : Nat) (P Hh : Nat → Nat) (hn : n ≤ 12) (hf0 : 1 ≤ f) (hf : f ≤ n) (hPb : ∀ i, i < 12 → P i ≤ 2400) (hHb : ∀ i, i < 12 → Hh i ≤ 2000) : zR l yX1_mostHeightFor wsX1_mostHeightFor ({ frames := 4, cells := 0, slots := 0, locals := 89 }) E [.ref o, .int (nI f)] [(o, .inr (1, [.int (nI n), .ref ap, .ref ah, .ref aw])), (ap, .inl (E.2.1, 12, .inl (fun zz => nI (P zz)))), (ah, .inl (E.2.1, 12, .inl (fun zz => nI (Hh zz))))] (fun r => r = Int32.ofInt (max 0 (mstL P Hh (atN P f) (f - 1)))) := by
  refine zR.start (own := RX1) rfl (by decide +kernel) rfl (Nat.le_of_ble_eq_true rfl) (fun _ _ => rfl) ?_
  intro pZ eZ sZ mZ argsZ belowZ methZ cZ QZ hF hret hP hG ls hl
  obtain ⟨hx, hb, hml, hown, hts⟩ := id hF
  have hl : lv_has ls 4 [(0, .ref o), (1, .int (nI f))] := hl
  refine lv_sipush (v := nI 2000) hx hb dX1_mostHeightFor_0 (by decide) ?_
  refine lv_istore_n (lv' := [(2, .int (nI 2000)), (0, .ref o), (1, .int (nI f))]) hx hb dX1_mostHeightFor_3 rfl hl (by decide) rfl (fun ls hl => ?_)
  refine lv_iconst (v := nI 1) hx hb dX1_mostHeightFor_4 (by decide) ?_
  refine lv_istore_n (lv' := [(3, .int (nI 1)), (2, .int (nI 2000)), (0, .ref o), (1, .int (nI f))]) hx hb dX1_mostHeightFor_5 rfl hl (by decide) rfl (fun ls hl => ?_)
  have L6_1 : ∀ (fuelZ : Nat) (g : Nat), f - g < fuelZ → (1 ≤ g) → (g ≤ f) → ∀ ls : Array Slot, lv_has ls 4 [(3, .int (nI g)), (2, .int (Int32.ofInt (mstL P Hh (atN P f) (g - 1)))), (0, .ref o), (1, .int (nI f))] → W pZ l eZ ({ frames := 4, cells := 0, slots := 0, locals := 89 }) sZ mZ argsZ belowZ methZ cZ sZ.heap [] 0 0 QZ (F0 mZ 6 ls []) := by
    intro fuelZ
    induction fuelZ with
    | zero => intro g hm; exact absurd hm (Nat.not_lt_zero _)
    | succ fuelZ ih6 =>
      intro g hm i0 i1 ls hl
      refine lv_iload_n hx hb dX1_mostHeightFor_6 rfl (lv_at hl 0 rfl) ?_
      refine lv_iload_n hx hb dX1_mostHeightFor_7 rfl (lv_at hl 3 rfl) ?_
      refine z_icmp_ge (a := g) (b := f) (tgt := 32) hx hb dX1_mostHeightFor_8 (by decide) (by omega) (by omega) (fun c2 => ?_) (fun c2 => ?_)
      · -- 8 t
        refine lv_iconst (v := nI 0) hx hb dX1_mostHeightFor_32 (by decide) ?_
        refine lv_iload_n hx hb dX1_mostHeightFor_33 rfl (lv_at hl 1 rfl) ?_
        refine va_mmax hx hb (hml.trans hl.1.symm) hown (hts (.methodLink RX1 49 Lib.Math.max.name) (by decide +kernel)) (hts (.static Lib.Math.max.name) (by decide +kernel)) (hts (.initialized "java/lang/Math") (by decide +kernel)) (hts (.code Lib.Math.max.name Lib.Math.max.code 2 (some .int)) (by decide +kernel)) (Nat.le_of_ble_eq_true rfl) (Nat.le_of_ble_eq_true rfl) (Nat.zero_le _) (Nat.zero_le _) dX1_mostHeightFor_34 ?_
        exact hret _ _ _ dX1_mostHeightFor_37 (by obtain rfl : g = f := (by omega); exact mst_e (mstL_b hPb hHb (Nat.le_trans (atN_le hPb (by omega)) (by omega)) _ (by omega)).1 (mstL_b hPb hHb (Nat.le_trans (atN_le hPb (by omega)) (by omega)) _ (by omega)).2)
      · -- 8 f
        refine lv_iload_n hx hb dX1_mostHeightFor_11 rfl (lv_at hl 1 rfl) ?_
        refine lv_aload_n hx hb dX1_mostHeightFor_12 rfl (lv_at hl 2 rfl) ?_
        refine lv_iload_n hx hb dX1_mostHeightFor_13 rfl (lv_at hl 0 rfl) ?_
        refine lv_aload_n hx hb dX1_mostHeightFor_14 rfl (lv_at hl 2 rfl) ?_
        refine lv_iload_n hx hb dX1_mostHeightFor_15 rfl (lv_at hl 3 rfl) ?_
        have hPc := zP_sub (w := [(o, .inr (1, [.int (nI n), .ref ap, .ref ah, .ref aw])), (ap, .inl (E.2.1, 12, .inl (fun zz => nI (P zz))))]) hP [0, 1] rfl
        refine z_rd (fun _ h => h) (va_runV (As := [.int (nI f)]) (rest := [.int (nI g), .ref o, .int (Int32.ofInt (mstL P Hh (atN P f) (g - 1)))]) hF (c_X1_positionOf l E o ap ah aw n f P (by omega) (by omega)) (cwV 1 hts gX1_mostHeightFor_X1_positionOf rfl rfl rfl (by decide +kernel) ⟨Nat.le_of_ble_eq_true rfl, Nat.le_of_ble_eq_true rfl⟩) (z_preRV (va_recv hG.1 hP (ci := 1) (q0 := 0) rfl rfl) hPc hG) rfl rfl hl.1 rfl (lv_room (Nat.le_of_ble_eq_true rfl)) dX1_mostHeightFor_16 ⟨Nat.zero_le _, Nat.zero_le _⟩) (fun r3 hr3 => ?_)
        subst hr3
        have hPc := zP_sub (w := [(o, .inr (1, [.int (nI n), .ref ap, .ref ah, .ref aw])), (ap, .inl (E.2.1, 12, .inl (fun zz => nI (P zz)))), (ah, .inl (E.2.1, 12, .inl (fun zz => nI (Hh zz))))]) hP [0, 1, 2] rfl
        refine z_rd (fun _ h => h) (va_runV (As := [.int (nI g), .int (nI (atN P f))]) (rest := [.int (Int32.ofInt (mstL P Hh (atN P f) (g - 1)))]) hF (c_X1_lineAt l E o ap ah aw n g (atN P f) P Hh (by omega) (by omega) (atN_le hPb (by omega)) (atN_le hHb (by omega)) (Nat.le_trans (atN_le hPb (by omega)) (by omega))) (cwV 2 hts gX1_mostHeightFor_X1_lineAt rfl rfl rfl (by decide +kernel) ⟨Nat.le_of_ble_eq_true rfl, Nat.le_of_ble_eq_true rfl⟩) (z_preRV (va_recv hG.1 hP (ci := 1) (q0 := 0) rfl rfl) hPc hG) rfl rfl hl.1 rfl (lv_room (Nat.le_of_ble_eq_true rfl)) dX1_mostHeightFor_19 ⟨Nat.zero_le _, Nat.zero_le _⟩) (fun r4 hr4 => ?_)
        subst hr4
        refine va_mmin hx hb (hml.trans hl.1.symm) hown (hts (.methodLink RX1 43 Lib.Math.min.name) (by decide +kernel)) (hts (.static Lib.Math.min.name) (by decide +kernel)) (hts (.initialized "java/lang/Math") (by decide +kernel)) (hts (.code Lib.Math.min.name Lib.Math.min.code 2 (some .int)) (by decide +kernel)) (Nat.le_of_ble_eq_true rfl) (Nat.le_of_ble_eq_true rfl) (Nat.zero_le _) (Nat.zero_le _) dX1_mostHeightFor_22 ?_
        refine lv_topi (fun x5 ex5 => ?_)
        refine lv_istore_n (lv' := [(2, .int x5), (3, .int (nI g)), (0, .ref o), (1, .int (nI f))]) hx hb dX1_mostHeightFor_25 rfl hl (by decide) rfl (fun ls hl => ?_)
        refine z_iinc (k := 1) (d := 1) (lv' := [(3, .int (nI (g + 1))), (2, .int x5), (0, .ref o), (1, .int (nI f))]) hx hb dX1_mostHeightFor_26 (by decide) hl rfl (by decide) rfl (fun ls hl => ?_)
        refine lv_goto (tgt := 6) hx hb dX1_mostHeightFor_29 (by decide) ?_
        have e6 : x5 = Int32.ofInt (mstL P Hh (atN P f) ((g + 1) - 1)) := by exact mst_s hPb hHb (by omega) i0 (by omega) (by assumption)
        have hl : lv_has ls 4 [(3, .int (nI (g + 1))), (2, .int (Int32.ofInt (mstL P Hh (atN P f) ((g + 1) - 1)))), (0, .ref o), (1, .int (nI f))] := Eq.subst (motive := fun XX : Int32 => lv_has ls 4 [(3, .int (nI (g + 1))), (2, .int XX), (0, .ref o), (1, .int (nI f))]) e6 hl
        exact ih6 (g + 1) (by omega) (by omega) (by omega) _ (lv_sub hl [0, 1, 2, 3] rfl)
  have e7 : nI 2000 = Int32.ofInt (mstL P Hh (atN P f) (1 - 1)) := by rfl
  have hl : lv_has ls 4 [(3, .int (nI 1)), (2, .int (Int32.ofInt (mstL P Hh (atN P f) (1 - 1)))), (0, .ref o), (1, .int (nI f))] := Eq.subst (motive := fun XX : Int32 => lv_has ls 4 [(3, .int (nI 1)), (2, .int XX), (0, .ref o), (1, .int (nI f))]) e7 hl
  exact L6_1 ((f - 1) + 1) 1 (Nat.lt_succ_self _) (by omega) (by omega) _ (lv_sub hl [0, 1, 2, 3] rfl)
theorem iwX1_file_X1_c_X1_file : ∀ w ∈ wsX10, w ∈ wsX1_file := by decide +kernel
set_option maxHeartbeats 1000000 in
set_option maxRecDepth 100000 in
theorem c_X1_file (l : Launch) (E : zE) (o ap ah aw n f h : Nat) (P Hh Wr : Nat → Nat) (hn : n ≤ 12) (hf : f ≤ n) (hf0 : 1 ≤ f) : zV l yX1_file wsX1_file ({ frames := 2, cells := 0, slots := 0, locals := 43 }) E [.ref o, .int (nI f), .int (nI h)] [(o, .inr (1, [.int (nI n), .ref ap, .ref ah, .ref aw])), (ap, .inl (E.2.1, 12, .inl (fun zz => nI (P zz)))), (ah, .inl (E.2.1, 12, .inl (fun zz => nI (Hh zz)))), (aw, .inl (E.2.1, 12, .inl (fun zz => nI (Wr zz))))] (fun w' => w' = [(o, .inr (1, [.int (nI n), .ref ap, .ref ah, .ref aw])), (ap, .inl (E.2.1, 12, .inl (fun zz => nI (P zz)))), (ah, .inl (E.2.1, 12, .inl (fun zz => nI ((va_up Hh (f - 1) h) zz)))), (aw, .inl (E.2.1, 12, .inl (fun zz => nI ((va_up Wr (f - 1) 0) zz))))]) := by
  refine zV.start (own := RX1) rfl (by decide +kernel) rfl (Nat.le_of_ble_eq_true rfl) ?_
  intro pZ eZ sZ mZ argsZ belowZ methZ cZ QZ AZ hF hret HZ locsZ hP hD hS hG ls hl
  obtain ⟨hx, hb, hml, hown, hts⟩ := id hF
  have hl : lv_has ls 3 [(0, .ref o), (1, .int (nI f)), (2, .int (nI h))] := hl
  refine lv_aload_n hx hb dX1_file_0 rfl (lv_at hl 0 rfl) ?_
  refine lv_iload_n hx hb dX1_file_1 rfl (lv_at hl 1 rfl) ?_
  have hPc := zP_sub (w := [(o, .inr (1, [.int (nI n), .ref ap, .ref ah, .ref aw]))]) hP [0] rfl
  refine z_rd (fun _ h => h) (va_runV (As := [.int (nI f)]) (rest := []) hF (c_X1_hasN l E o ap ah aw n f (by omega) (by omega)) (cwV 1 hts gX1_file_X1_has rfl rfl rfl (by decide +kernel) ⟨Nat.le_of_ble_eq_true rfl, Nat.le_of_ble_eq_true rfl⟩) (z_preRV (va_recv hG.1 hP (ci := 1) (q0 := 0) rfl rfl) hPc hG) rfl rfl hl.1 rfl (lv_room (Nat.le_of_ble_eq_true rfl)) dX1_file_2 ⟨Nat.zero_le _, Nat.zero_le _⟩) (fun r1 hr1 => ?_)
  rcases hr1 with ⟨rfl, c2⟩ | ⟨rfl, c2⟩
  · -- 2 t
    refine lv_if_eq (tgt := 26) hx hb dX1_file_5 (by decide) (fun c => absurd c (by decide)) (fun _ => ?_)
    refine lv_aload_n hx hb dX1_file_8 rfl (lv_at hl 0 rfl) ?_
    refine va_get (D := E.1) (ci := 1) (v := .ref ah) (C := RX1) (T := TX1) (N := 4) hx hb hts iwX1_file_X1_c_X1_file hown hG.1 hP 0 rfl rfl 2 (by decide) (hts (.fieldLink RX1 15 "FrettedStrings$Neck" "heights" "[I") (by decide +kernel)) (fun _ h9 => h9) rfl dX1_file_9 ?_
    refine lv_iload_n hx hb dX1_file_12 rfl (lv_at hl 1 rfl) ?_
    refine lv_iconst (v := nI 1) hx hb dX1_file_13 (by decide) ?_
    refine z_isub (a := f) (b := 1) hx hb dX1_file_14 (by omega) ?_
    refine lv_iload_n hx hb dX1_file_15 rfl (lv_at hl 2 rfl) ?_
    refine z_iast (j := f - 1) (v := h) (g := va_up Hh (f - 1) h) hx hb hG hP hD hS 2 rfl (by omega) (by decide) (rfl) dX1_file_16 (fun HZ locsZ hP hD hS => ?_)
    have hP : va_P E.1 vwCl [(o, .inr (1, [.int (nI n), .ref ap, .ref ah, .ref aw])), (ap, .inl (E.2.1, 12, .inl (fun zz => nI (P zz)))), (ah, .inl (E.2.1, 12, .inl (fun zz => nI ((va_up Hh (f - 1) h) zz)))), (aw, .inl (E.2.1, 12, .inl (fun zz => nI (Wr zz))))] _ := hP
    have hD : va_D AZ [(o, .inr (1, [.int (nI n), .ref ap, .ref ah, .ref aw])), (ap, .inl (E.2.1, 12, .inl (fun zz => nI (P zz)))), (ah, .inl (E.2.1, 12, .inl (fun zz => nI ((va_up Hh (f - 1) h) zz)))), (aw, .inl (E.2.1, 12, .inl (fun zz => nI (Wr zz))))] := hD
    refine lv_aload_n hx hb dX1_file_17 rfl (lv_at hl 0 rfl) ?_
    refine va_get (D := E.1) (ci := 1) (v := .ref aw) (C := RX1) (T := TX1) (N := 4) hx hb hts iwX1_file_X1_c_X1_file hown hG.1 hP 0 rfl rfl 3 (by decide) (hts (.fieldLink RX1 18 "FrettedStrings$Neck" "wears" "[I") (by decide +kernel)) (fun _ h9 => h9) rfl dX1_file_18 ?_
    refine lv_iload_n hx hb dX1_file_21 rfl (lv_at hl 1 rfl) ?_
    refine lv_iconst (v := nI 1) hx hb dX1_file_22 (by decide) ?_
    refine z_isub (a := f) (b := 1) hx hb dX1_file_23 (by omega) ?_
    refine lv_iconst (v := nI 0) hx hb dX1_file_24 (by decide) ?_
    refine z_iast (j := f - 1) (v := 0) (g := va_up Wr (f - 1) 0) hx hb hG hP hD hS 3 rfl (by omega) (by decide) (rfl) dX1_file_25 (fun HZ locsZ hP hD hS => ?_)
    have hP : va_P E.1 vwCl [(o, .inr (1, [.int (nI n), .ref ap, .ref ah, .ref aw])), (ap, .inl (E.2.1, 12, .inl (fun zz => nI (P zz)))), (ah, .inl (E.2.1, 12, .inl (fun zz => nI ((va_up Hh (f - 1) h) zz)))), (aw, .inl (E.2.1, 12, .inl (fun zz => nI ((va_up Wr (f - 1) 0) zz))))] _ := hP
    have hD : va_D AZ [(o, .inr (1, [.int (nI n), .ref ap, .ref ah, .ref aw])), (ap, .inl (E.2.1, 12, .inl (fun zz => nI (P zz)))), (ah, .inl (E.2.1, 12, .inl (fun zz => nI ((va_up Hh (f - 1) h) zz)))), (aw, .inl (E.2.1, 12, .inl (fun zz => nI ((va_up Wr (f - 1) 0) zz))))] := hD
    exact hret _ _ _ _ _ hP hS dX1_file_26 rfl rfl
  · -- 2 f
    exact absurd hf0 c2
theorem iwX1_copyFrom_X1_c_X1_copyFrom : ∀ w ∈ wsX10, w ∈ wsX1_copyFrom := by decide +kernel
set_option maxHeartbeats 1000000 in
set_option maxRecDepth 100000 in
theorem c_X1_copyFrom (l : Launch) (E : zE) (o ap ah aw n o2 ap2 ah2 aw2 n2 : Nat) (P Hh Wr P2 Hh2 Wr2 : Nat → Nat)  : zV l yX1_copyFrom wsX1_copyFrom ({ frames := 1, cells := 0, slots := 0, locals := 40 }) E [.ref o, .ref o2] [(o, .inr (1, [.int (nI n), .ref ap, .ref ah, .ref aw])), (ap, .inl (E.2.1, 12, .inl (fun zz => nI (P zz)))), (ah, .inl (E.2.1, 12, .inl (fun zz => nI (Hh zz)))), (aw, .inl (E.2.1, 12, .inl (fun zz => nI (Wr zz)))), (o2, .inr (1, [.int (nI n2), .ref ap2, .ref ah2, .ref aw2])), (ap2, .inl (E.2.1, 12, .inl (fun zz => nI (P2 zz)))), (ah2, .inl (E.2.1, 12, .inl (fun zz => nI (Hh2 zz)))), (aw2, .inl (E.2.1, 12, .inl (fun zz => nI (Wr2 zz))))] (fun w' => w' = [(o, .inr (1, [.int (nI n2), .ref ap, .ref ah, .ref aw])), (ap, .inl (E.2.1, 12, .inl (fun zz => nI (P2 zz)))), (ah, .inl (E.2.1, 12, .inl (fun zz => nI (Hh2 zz)))), (aw, .inl (E.2.1, 12, .inl (fun zz => nI (Wr2 zz)))), (o2, .inr (1, [.int (nI n2), .ref ap2, .ref ah2, .ref aw2])), (ap2, .inl (E.2.1, 12, .inl (fun zz => nI (P2 zz)))), (ah2, .inl (E.2.1, 12, .inl (fun zz => nI (Hh2 zz)))), (aw2, .inl (E.2.1, 12, .inl (fun zz => nI (Wr2 zz))))]) := by
  refine zV.start (own := RX1) rfl (by decide +kernel) rfl (Nat.le_of_ble_eq_true rfl) ?_
  intro pZ eZ sZ mZ argsZ belowZ methZ cZ QZ AZ hF hret HZ locsZ hP hD hS hG ls hl
  obtain ⟨hx, hb, hml, hown, hts⟩ := id hF
  have hl : lv_has ls 2 [(0, .ref o), (1, .ref o2)] := hl
  refine lv_aload_n hx hb dX1_copyFrom_0 rfl (lv_at hl 0 rfl) ?_
  refine lv_aload_n hx hb dX1_copyFrom_1 rfl (lv_at hl 1 rfl) ?_
  refine va_get (D := E.1) (ci := 1) (v := .int (nI n2)) (C := RX1) (T := TX1) (N := 4) hx hb hts iwX1_copyFrom_X1_c_X1_copyFrom hown hG.1 hP 4 rfl rfl 0 (by decide) (hts (.fieldLink RX1 21 "FrettedStrings$Neck" "frets" "I") (by decide +kernel)) (fun _ h9 => h9) rfl dX1_copyFrom_2 ?_
  refine va_put (D := E.1) (ci := 1) (v := .int (nI n2)) (ty := .int) (C := RX1) (T := TX1) (N := 4) hx hb hts iwX1_copyFrom_X1_c_X1_copyFrom tyX1 tyX1_ok nmX1 hown hG.1 hP hD hS 0 rfl rfl 0 (by decide) (hts (.fieldLink RX1 21 "FrettedStrings$Neck" "frets" "I") (by decide +kernel)) (fun _ h9 => h9) rfl (by decide +kernel) rfl rfl (Nat.le_of_ble_eq_true rfl) dX1_copyFrom_5 (fun HZ locsZ hP hD hS => ?_)
  have hP : va_P E.1 vwCl [(o, .inr (1, [.int (nI n2), .ref ap, .ref ah, .ref aw])), (ap, .inl (E.2.1, 12, .inl (fun zz => nI (P zz)))), (ah, .inl (E.2.1, 12, .inl (fun zz => nI (Hh zz)))), (aw, .inl (E.2.1, 12, .inl (fun zz => nI (Wr zz)))), (o2, .inr (1, [.int (nI n2), .ref ap2, .ref ah2, .ref aw2])), (ap2, .inl (E.2.1, 12, .inl (fun zz => nI (P2 zz)))), (ah2, .inl (E.2.1, 12, .inl (fun zz => nI (Hh2 zz)))), (aw2, .inl (E.2.1, 12, .inl (fun zz => nI (Wr2 zz))))] _ := hP
  have hD : va_D AZ [(o, .inr (1, [.int (nI n2), .ref ap, .ref ah, .ref aw])), (ap, .inl (E.2.1, 12, .inl (fun zz => nI (P zz)))), (ah, .inl (E.2.1, 12, .inl (fun zz => nI (Hh zz)))), (aw, .inl (E.2.1, 12, .inl (fun zz => nI (Wr zz)))), (o2, .inr (1, [.int (nI n2), .ref ap2, .ref ah2, .ref aw2])), (ap2, .inl (E.2.1, 12, .inl (fun zz => nI (P2 zz)))), (ah2, .inl (E.2.1, 12, .inl (fun zz => nI (Hh2 zz)))), (aw2, .inl (E.2.1, 12, .inl (fun zz => nI (Wr2 zz))))] := hD
  refine lv_aload_n hx hb dX1_copyFrom_8 rfl (lv_at hl 1 rfl) ?_
  refine va_get (D := E.1) (ci := 1) (v := .ref ap2) (C := RX1) (T := TX1) (N := 4) hx hb hts iwX1_copyFrom_X1_c_X1_copyFrom hown hG.1 hP 4 rfl rfl 1 (by decide) (hts (.fieldLink RX1 9 "FrettedStrings$Neck" "positions" "[I") (by decide +kernel)) (fun _ h9 => h9) rfl dX1_copyFrom_9 ?_
  refine lv_iconst (v := nI 0) hx hb dX1_copyFrom_12 (by decide) ?_
  refine lv_aload_n hx hb dX1_copyFrom_13 rfl (lv_at hl 0 rfl) ?_
  refine va_get (D := E.1) (ci := 1) (v := .ref ap) (C := RX1) (T := TX1) (N := 4) hx hb hts iwX1_copyFrom_X1_c_X1_copyFrom hown hG.1 hP 0 rfl rfl 1 (by decide) (hts (.fieldLink RX1 9 "FrettedStrings$Neck" "positions" "[I") (by decide +kernel)) (fun _ h9 => h9) rfl dX1_copyFrom_14 ?_
  refine lv_iconst (v := nI 0) hx hb dX1_copyFrom_17 (by decide) ?_
  refine lv_bipush (v := nI 12) hx hb dX1_copyFrom_18 (by decide) ?_
  refine z_copy (n := 12) hx hb (hml.trans hl.1.symm) hown (hts (.methodLink RX1 25 arraycopyName) (by decide +kernel)) (hts (.native arraycopyName) (by decide +kernel)) (hts (.static arraycopyName) (by decide +kernel)) (hts (.initialized "java/lang/System") (by decide +kernel)) hG hP hD hS 5 1 rfl rfl (by decide) (Nat.le_of_ble_eq_true rfl) (by decide +kernel) dX1_copyFrom_20 (fun HZ locsZ hP hD hS => ?_)
  have hP : va_P E.1 vwCl [(o, .inr (1, [.int (nI n2), .ref ap, .ref ah, .ref aw])), (ap, .inl (E.2.1, 12, .inl (fun zz => nI (P2 zz)))), (ah, .inl (E.2.1, 12, .inl (fun zz => nI (Hh zz)))), (aw, .inl (E.2.1, 12, .inl (fun zz => nI (Wr zz)))), (o2, .inr (1, [.int (nI n2), .ref ap2, .ref ah2, .ref aw2])), (ap2, .inl (E.2.1, 12, .inl (fun zz => nI (P2 zz)))), (ah2, .inl (E.2.1, 12, .inl (fun zz => nI (Hh2 zz)))), (aw2, .inl (E.2.1, 12, .inl (fun zz => nI (Wr2 zz))))] _ := hP
  have hD : va_D AZ [(o, .inr (1, [.int (nI n2), .ref ap, .ref ah, .ref aw])), (ap, .inl (E.2.1, 12, .inl (fun zz => nI (P2 zz)))), (ah, .inl (E.2.1, 12, .inl (fun zz => nI (Hh zz)))), (aw, .inl (E.2.1, 12, .inl (fun zz => nI (Wr zz)))), (o2, .inr (1, [.int (nI n2), .ref ap2, .ref ah2, .ref aw2])), (ap2, .inl (E.2.1, 12, .inl (fun zz => nI (P2 zz)))), (ah2, .inl (E.2.1, 12, .inl (fun zz => nI (Hh2 zz)))), (aw2, .inl (E.2.1, 12, .inl (fun zz => nI (Wr2 zz))))] := hD
  refine lv_aload_n hx hb dX1_copyFrom_23 rfl (lv_at hl 1 rfl) ?_
  refine va_get (D := E.1) (ci := 1) (v := .ref ah2) (C := RX1) (T := TX1) (N := 4) hx hb hts iwX1_copyFrom_X1_c_X1_copyFrom hown hG.1 hP 4 rfl rfl 2 (by decide) (hts (.fieldLink RX1 15 "FrettedStrings$Neck" "heights" "[I") (by decide +kernel)) (fun _ h9 => h9) rfl dX1_copyFrom_24 ?_
  refine lv_iconst (v := nI 0) hx hb dX1_copyFrom_27 (by decide) ?_
  refine lv_aload_n hx hb dX1_copyFrom_28 rfl (lv_at hl 0 rfl) ?_
  refine va_get (D := E.1) (ci := 1) (v := .ref ah) (C := RX1) (T := TX1) (N := 4) hx hb hts iwX1_copyFrom_X1_c_X1_copyFrom hown hG.1 hP 0 rfl rfl 2 (by decide) (hts (.fieldLink RX1 15 "FrettedStrings$Neck" "heights" "[I") (by decide +kernel)) (fun _ h9 => h9) rfl dX1_copyFrom_29 ?_
  refine lv_iconst (v := nI 0) hx hb dX1_copyFrom_32 (by decide) ?_
  refine lv_bipush (v := nI 12) hx hb dX1_copyFrom_33 (by decide) ?_
  refine z_copy (n := 12) hx hb (hml.trans hl.1.symm) hown (hts (.methodLink RX1 25 arraycopyName) (by decide +kernel)) (hts (.native arraycopyName) (by decide +kernel)) (hts (.static arraycopyName) (by decide +kernel)) (hts (.initialized "java/lang/System") (by decide +kernel)) hG hP hD hS 6 2 rfl rfl (by decide) (Nat.le_of_ble_eq_true rfl) (by decide +kernel) dX1_copyFrom_35 (fun HZ locsZ hP hD hS => ?_)
  have hP : va_P E.1 vwCl [(o, .inr (1, [.int (nI n2), .ref ap, .ref ah, .ref aw])), (ap, .inl (E.2.1, 12, .inl (fun zz => nI (P2 zz)))), (ah, .inl (E.2.1, 12, .inl (fun zz => nI (Hh2 zz)))), (aw, .inl (E.2.1, 12, .inl (fun zz => nI (Wr zz)))), (o2, .inr (1, [.int (nI n2), .ref ap2, .ref ah2, .ref aw2])), (ap2, .inl (E.2.1, 12, .inl (fun zz => nI (P2 zz)))), (ah2, .inl (E.2.1, 12, .inl (fun zz => nI (Hh2 zz)))), (aw2, .inl (E.2.1, 12, .inl (fun zz => nI (Wr2 zz))))] _ := hP
  have hD : va_D AZ [(o, .inr (1, [.int (nI n2), .ref ap, .ref ah, .ref aw])), (ap, .inl (E.2.1, 12, .inl (fun zz => nI (P2 zz)))), (ah, .inl (E.2.1, 12, .inl (fun zz => nI (Hh2 zz)))), (aw, .inl (E.2.1, 12, .inl (fun zz => nI (Wr zz)))), (o2, .inr (1, [.int (nI n2), .ref ap2, .ref ah2, .ref aw2])), (ap2, .inl (E.2.1, 12, .inl (fun zz => nI (P2 zz)))), (ah2, .inl (E.2.1, 12, .inl (fun zz => nI (Hh2 zz)))), (aw2, .inl (E.2.1, 12, .inl (fun zz => nI (Wr2 zz))))] := hD
  refine lv_aload_n hx hb dX1_copyFrom_38 rfl (lv_at hl 1 rfl) ?_
  refine va_get (D := E.1) (ci := 1) (v := .ref aw2) (C := RX1) (T := TX1) (N := 4) hx hb hts iwX1_copyFrom_X1_c_X1_copyFrom hown hG.1 hP 4 rfl rfl 3 (by decide) (hts (.fieldLink RX1 18 "FrettedStrings$Neck" "wears" "[I") (by decide +kernel)) (fun _ h9 => h9) rfl dX1_copyFrom_39 ?_
  refine lv_iconst (v := nI 0) hx hb dX1_copyFrom_42 (by decide) ?_
  refine lv_aload_n hx hb dX1_copyFrom_43 rfl (lv_at hl 0 rfl) ?_
  refine va_get (D := E.1) (ci := 1) (v := .ref aw) (C := RX1) (T := TX1) (N := 4) hx hb hts iwX1_copyFrom_X1_c_X1_copyFrom hown hG.1 hP 0 rfl rfl 3 (by decide) (hts (.fieldLink RX1 18 "FrettedStrings$Neck" "wears" "[I") (by decide +kernel)) (fun _ h9 => h9) rfl dX1_copyFrom_44 ?_
  refine lv_iconst (v := nI 0) hx hb dX1_copyFrom_47 (by decide) ?_
  refine lv_bipush (v := nI 12) hx hb dX1_copyFrom_48 (by decide) ?_
  refine z_copy (n := 12) hx hb (hml.trans hl.1.symm) hown (hts (.methodLink RX1 25 arraycopyName) (by decide +kernel)) (hts (.native arraycopyName) (by decide +kernel)) (hts (.static arraycopyName) (by decide +kernel)) (hts (.initialized "java/lang/System") (by decide +kernel)) hG hP hD hS 7 3 rfl rfl (by decide) (Nat.le_of_ble_eq_true rfl) (by decide +kernel) dX1_copyFrom_50 (fun HZ locsZ hP hD hS => ?_)
  have hP : va_P E.1 vwCl [(o, .inr (1, [.int (nI n2), .ref ap, .ref ah, .ref aw])), (ap, .inl (E.2.1, 12, .inl (fun zz => nI (P2 zz)))), (ah, .inl (E.2.1, 12, .inl (fun zz => nI (Hh2 zz)))), (aw, .inl (E.2.1, 12, .inl (fun zz => nI (Wr2 zz)))), (o2, .inr (1, [.int (nI n2), .ref ap2, .ref ah2, .ref aw2])), (ap2, .inl (E.2.1, 12, .inl (fun zz => nI (P2 zz)))), (ah2, .inl (E.2.1, 12, .inl (fun zz => nI (Hh2 zz)))), (aw2, .inl (E.2.1, 12, .inl (fun zz => nI (Wr2 zz))))] _ := hP
  have hD : va_D AZ [(o, .inr (1, [.int (nI n2), .ref ap, .ref ah, .ref aw])), (ap, .inl (E.2.1, 12, .inl (fun zz => nI (P2 zz)))), (ah, .inl (E.2.1, 12, .inl (fun zz => nI (Hh2 zz)))), (aw, .inl (E.2.1, 12, .inl (fun zz => nI (Wr2 zz)))), (o2, .inr (1, [.int (nI n2), .ref ap2, .ref ah2, .ref aw2])), (ap2, .inl (E.2.1, 12, .inl (fun zz => nI (P2 zz)))), (ah2, .inl (E.2.1, 12, .inl (fun zz => nI (Hh2 zz)))), (aw2, .inl (E.2.1, 12, .inl (fun zz => nI (Wr2 zz))))] := hD
  exact hret _ _ _ _ _ hP hS dX1_copyFrom_53 rfl rfl
theorem iwX1_insert_X1_c_X1_insert : ∀ w ∈ wsX10, w ∈ wsX1_insert := by decide +kernel
set_option maxHeartbeats 1000000 in
set_option maxRecDepth 100000 in
theorem c_X1_insert (l : Launch) (E : zE) (o ap ah aw n x h : Nat) (P Hh Wr : Nat → Nat) (hn : n < 12) (hPb : ∀ i, i < 12 → P i ≤ 2400) (hxx : x ≤ 2400) : zM l yX1_insert wsX1_insert ({ frames := 0, cells := 0, slots := 0, locals := 0 }) E [.ref o, .int (nI x), .int (nI h)] [(o, .inr (1, [.int (nI n), .ref ap, .ref ah, .ref aw])), (ap, .inl (E.2.1, 12, .inl (fun zz => nI (P zz)))), (ah, .inl (E.2.1, 12, .inl (fun zz => nI (Hh zz)))), (aw, .inl (E.2.1, 12, .inl (fun zz => nI (Wr zz))))] (fun r w' => r = nI (insI P x n + 1) ∧ w' = [(o, .inr (1, [.int (nI (n + 1)), .ref ap, .ref ah, .ref aw])), (ap, .inl (E.2.1, 12, .inl (fun zz => nI ((insA P n (insI P x n) x) zz)))), (ah, .inl (E.2.1, 12, .inl (fun zz => nI ((insA Hh n (insI P x n) h) zz)))), (aw, .inl (E.2.1, 12, .inl (fun zz => nI ((insA Wr n (insI P x n) 0) zz))))]) := by
  refine zM.start (own := RX1) rfl (by decide +kernel) rfl (Nat.le_of_ble_eq_true rfl) (fun _ _ _ => rfl) ?_
  intro pZ eZ sZ mZ argsZ belowZ methZ cZ QZ AZ hF hret HZ locsZ hP hD hS hG ls hl
  obtain ⟨hx, hb, hml, hown, hts⟩ := id hF
  have hl : lv_has ls 4 [(0, .ref o), (1, .int (nI x)), (2, .int (nI h))] := hl
  refine lv_aload_n hx hb dX1_insert_0 rfl (lv_at hl 0 rfl) ?_
  refine va_get (D := E.1) (ci := 1) (v := .int (nI n)) (C := RX1) (T := TX1) (N := 4) hx hb hts iwX1_insert_X1_c_X1_insert hown hG.1 hP 0 rfl rfl 0 (by decide) (hts (.fieldLink RX1 21 "FrettedStrings$Neck" "frets" "I") (by decide +kernel)) (fun _ h9 => h9) rfl dX1_insert_1 ?_
  refine lv_bipush (v := nI 12) hx hb dX1_insert_4 (by decide) ?_
  refine z_icmp_lt (a := n) (b := 12) (tgt := 11) hx hb dX1_insert_6 (by decide) (by omega) (by omega) (fun c1 => ?_) (fun c1 => ?_)
  · -- 6 t
    refine lv_aload_n hx hb dX1_insert_11 rfl (lv_at hl 0 rfl) ?_
    refine va_get (D := E.1) (ci := 1) (v := .int (nI n)) (C := RX1) (T := TX1) (N := 4) hx hb hts iwX1_insert_X1_c_X1_insert hown hG.1 hP 0 rfl rfl 0 (by decide) (hts (.fieldLink RX1 21 "FrettedStrings$Neck" "frets" "I") (by decide +kernel)) (fun _ h9 => h9) rfl dX1_insert_12 ?_
    refine lv_istore_n (lv' := [(3, .int (nI n)), (0, .ref o), (1, .int (nI x)), (2, .int (nI h))]) hx hb dX1_insert_15 rfl hl (by decide) rfl (fun ls hl => ?_)
    have L16_2 : ∀ (fuelZ : Nat) (i : Nat), i < fuelZ → (i ≤ n) → (insI P x n = insI P x i) → ∀ (HZ : Heap) (locsZ : List Loc), va_P E.1 vwCl [(o, .inr (1, [.int (nI n), .ref ap, .ref ah, .ref aw])), (ap, .inl (E.2.1, 12, .inl (fun zz => nI ((shf P n i) zz)))), (ah, .inl (E.2.1, 12, .inl (fun zz => nI ((shf Hh n i) zz)))), (aw, .inl (E.2.1, 12, .inl (fun zz => nI ((shf Wr n i) zz))))] HZ → va_D AZ [(o, .inr (1, [.int (nI n), .ref ap, .ref ah, .ref aw])), (ap, .inl (E.2.1, 12, .inl (fun zz => nI ((shf P n i) zz)))), (ah, .inl (E.2.1, 12, .inl (fun zz => nI ((shf Hh n i) zz)))), (aw, .inl (E.2.1, 12, .inl (fun zz => nI ((shf Wr n i) zz))))] → va_S AZ sZ.heap HZ locsZ → ∀ ls : Array Slot, lv_has ls 4 [(3, .int (nI i)), (0, .ref o), (1, .int (nI x)), (2, .int (nI h))] → W pZ l eZ ({ frames := 0, cells := 0, slots := 0, locals := 0 }) sZ mZ argsZ belowZ methZ cZ HZ locsZ 0 0 QZ (F0 mZ 16 ls []) := by
      intro fuelZ
      induction fuelZ with
      | zero => intro i hm; exact absurd hm (Nat.not_lt_zero _)
      | succ fuelZ ih16 =>
        intro i hm i0 hI HZ locsZ hP hD hS ls hl
        refine lv_iload_n hx hb dX1_insert_16 rfl (lv_at hl 0 rfl) ?_
        refine z_if_le (a := i) (tgt := 80) hx hb dX1_insert_17 (by decide) (by omega) (fun c3 => ?_) (fun c3 => ?_)
        · -- 17 t
          have hk : insI P x n = i := by first | (rw [hI]; exact ins_e (by omega) (by assumption)) | (rw [hI]; (obtain rfl : i = 0 := by assumption); rfl)
          refine lv_aload_n hx hb dX1_insert_80 rfl (lv_at hl 1 rfl) ?_
          refine va_get (D := E.1) (ci := 1) (v := .ref ap) (C := RX1) (T := TX1) (N := 4) hx hb hts iwX1_insert_X1_c_X1_insert hown hG.1 hP 0 rfl rfl 1 (by decide) (hts (.fieldLink RX1 9 "FrettedStrings$Neck" "positions" "[I") (by decide +kernel)) (fun _ h9 => h9) rfl dX1_insert_81 ?_
          refine lv_iload_n hx hb dX1_insert_84 rfl (lv_at hl 0 rfl) ?_
          refine lv_iload_n hx hb dX1_insert_85 rfl (lv_at hl 2 rfl) ?_
          refine z_iast (j := i) (v := x) (g := va_up (shf P n i) i x) hx hb hG hP hD hS 1 rfl (by omega) (by decide) (rfl) dX1_insert_86 (fun HZ locsZ hP hD hS => ?_)
          have hP : va_P E.1 vwCl [(o, .inr (1, [.int (nI n), .ref ap, .ref ah, .ref aw])), (ap, .inl (E.2.1, 12, .inl (fun zz => nI ((va_up (shf P n i) i x) zz)))), (ah, .inl (E.2.1, 12, .inl (fun zz => nI ((shf Hh n i) zz)))), (aw, .inl (E.2.1, 12, .inl (fun zz => nI ((shf Wr n i) zz))))] _ := hP
          have hD : va_D AZ [(o, .inr (1, [.int (nI n), .ref ap, .ref ah, .ref aw])), (ap, .inl (E.2.1, 12, .inl (fun zz => nI ((va_up (shf P n i) i x) zz)))), (ah, .inl (E.2.1, 12, .inl (fun zz => nI ((shf Hh n i) zz)))), (aw, .inl (E.2.1, 12, .inl (fun zz => nI ((shf Wr n i) zz))))] := hD
          refine lv_aload_n hx hb dX1_insert_87 rfl (lv_at hl 1 rfl) ?_
          refine va_get (D := E.1) (ci := 1) (v := .ref ah) (C := RX1) (T := TX1) (N := 4) hx hb hts iwX1_insert_X1_c_X1_insert hown hG.1 hP 0 rfl rfl 2 (by decide) (hts (.fieldLink RX1 15 "FrettedStrings$Neck" "heights" "[I") (by decide +kernel)) (fun _ h9 => h9) rfl dX1_insert_88 ?_
          refine lv_iload_n hx hb dX1_insert_91 rfl (lv_at hl 0 rfl) ?_
          refine lv_iload_n hx hb dX1_insert_92 rfl (lv_at hl 3 rfl) ?_
          refine z_iast (j := i) (v := h) (g := va_up (shf Hh n i) i h) hx hb hG hP hD hS 2 rfl (by omega) (by decide) (rfl) dX1_insert_93 (fun HZ locsZ hP hD hS => ?_)
          have hP : va_P E.1 vwCl [(o, .inr (1, [.int (nI n), .ref ap, .ref ah, .ref aw])), (ap, .inl (E.2.1, 12, .inl (fun zz => nI ((va_up (shf P n i) i x) zz)))), (ah, .inl (E.2.1, 12, .inl (fun zz => nI ((va_up (shf Hh n i) i h) zz)))), (aw, .inl (E.2.1, 12, .inl (fun zz => nI ((shf Wr n i) zz))))] _ := hP
          have hD : va_D AZ [(o, .inr (1, [.int (nI n), .ref ap, .ref ah, .ref aw])), (ap, .inl (E.2.1, 12, .inl (fun zz => nI ((va_up (shf P n i) i x) zz)))), (ah, .inl (E.2.1, 12, .inl (fun zz => nI ((va_up (shf Hh n i) i h) zz)))), (aw, .inl (E.2.1, 12, .inl (fun zz => nI ((shf Wr n i) zz))))] := hD
          refine lv_aload_n hx hb dX1_insert_94 rfl (lv_at hl 1 rfl) ?_
          refine va_get (D := E.1) (ci := 1) (v := .ref aw) (C := RX1) (T := TX1) (N := 4) hx hb hts iwX1_insert_X1_c_X1_insert hown hG.1 hP 0 rfl rfl 3 (by decide) (hts (.fieldLink RX1 18 "FrettedStrings$Neck" "wears" "[I") (by decide +kernel)) (fun _ h9 => h9) rfl dX1_insert_95 ?_
          refine lv_iload_n hx hb dX1_insert_98 rfl (lv_at hl 0 rfl) ?_
          refine lv_iconst (v := nI 0) hx hb dX1_insert_99 (by decide) ?_
          refine z_iast (j := i) (v := 0) (g := va_up (shf Wr n i) i 0) hx hb hG hP hD hS 3 rfl (by omega) (by decide) (rfl) dX1_insert_100 (fun HZ locsZ hP hD hS => ?_)
          have hP : va_P E.1 vwCl [(o, .inr (1, [.int (nI n), .ref ap, .ref ah, .ref aw])), (ap, .inl (E.2.1, 12, .inl (fun zz => nI ((va_up (shf P n i) i x) zz)))), (ah, .inl (E.2.1, 12, .inl (fun zz => nI ((va_up (shf Hh n i) i h) zz)))), (aw, .inl (E.2.1, 12, .inl (fun zz => nI ((va_up (shf Wr n i) i 0) zz))))] _ := hP
          have hD : va_D AZ [(o, .inr (1, [.int (nI n), .ref ap, .ref ah, .ref aw])), (ap, .inl (E.2.1, 12, .inl (fun zz => nI ((va_up (shf P n i) i x) zz)))), (ah, .inl (E.2.1, 12, .inl (fun zz => nI ((va_up (shf Hh n i) i h) zz)))), (aw, .inl (E.2.1, 12, .inl (fun zz => nI ((va_up (shf Wr n i) i 0) zz))))] := hD
          refine lv_aload_n hx hb dX1_insert_101 rfl (lv_at hl 1 rfl) ?_
          refine lv_dup hx hb dX1_insert_102 rfl ?_
          refine va_get (D := E.1) (ci := 1) (v := .int (nI n)) (C := RX1) (T := TX1) (N := 4) hx hb hts iwX1_insert_X1_c_X1_insert hown hG.1 hP 0 rfl rfl 0 (by decide) (hts (.fieldLink RX1 21 "FrettedStrings$Neck" "frets" "I") (by decide +kernel)) (fun _ h9 => h9) rfl dX1_insert_103 ?_
          refine lv_iconst (v := nI 1) hx hb dX1_insert_106 (by decide) ?_
          refine z_iadd (a := n) (b := 1) hx hb dX1_insert_107 ?_
          refine va_put (D := E.1) (ci := 1) (v := .int (nI (n + 1))) (ty := .int) (C := RX1) (T := TX1) (N := 4) hx hb hts iwX1_insert_X1_c_X1_insert tyX1 tyX1_ok nmX1 hown hG.1 hP hD hS 0 rfl rfl 0 (by decide) (hts (.fieldLink RX1 21 "FrettedStrings$Neck" "frets" "I") (by decide +kernel)) (fun _ h9 => h9) rfl (by decide +kernel) rfl rfl (Nat.le_of_ble_eq_true rfl) dX1_insert_108 (fun HZ locsZ hP hD hS => ?_)
          have hP : va_P E.1 vwCl [(o, .inr (1, [.int (nI (n + 1)), .ref ap, .ref ah, .ref aw])), (ap, .inl (E.2.1, 12, .inl (fun zz => nI ((va_up (shf P n i) i x) zz)))), (ah, .inl (E.2.1, 12, .inl (fun zz => nI ((va_up (shf Hh n i) i h) zz)))), (aw, .inl (E.2.1, 12, .inl (fun zz => nI ((va_up (shf Wr n i) i 0) zz))))] _ := hP
          have hD : va_D AZ [(o, .inr (1, [.int (nI (n + 1)), .ref ap, .ref ah, .ref aw])), (ap, .inl (E.2.1, 12, .inl (fun zz => nI ((va_up (shf P n i) i x) zz)))), (ah, .inl (E.2.1, 12, .inl (fun zz => nI ((va_up (shf Hh n i) i h) zz)))), (aw, .inl (E.2.1, 12, .inl (fun zz => nI ((va_up (shf Wr n i) i 0) zz))))] := hD
          refine lv_iload_n hx hb dX1_insert_111 rfl (lv_at hl 0 rfl) ?_
          refine lv_iconst (v := nI 1) hx hb dX1_insert_112 (by decide) ?_
          refine z_iadd (a := i) (b := 1) hx hb dX1_insert_113 ?_
          have e4 : (va_up (shf P n i) i x : Nat → Nat) = insA P n (insI P x n) x := by first | rfl | (unfold insA; rw [hk])
          have hP : va_P E.1 vwCl [(o, .inr (1, [.int (nI (n + 1)), .ref ap, .ref ah, .ref aw])), (ap, .inl (E.2.1, 12, .inl (fun zz => nI ((insA P n (insI P x n) x) zz)))), (ah, .inl (E.2.1, 12, .inl (fun zz => nI ((va_up (shf Hh n i) i h) zz)))), (aw, .inl (E.2.1, 12, .inl (fun zz => nI ((va_up (shf Wr n i) i 0) zz))))] HZ := Eq.subst (motive := fun XX : Nat → Nat => va_P E.1 vwCl [(o, .inr (1, [.int (nI (n + 1)), .ref ap, .ref ah, .ref aw])), (ap, .inl (E.2.1, 12, .inl (fun zz => nI (XX zz)))), (ah, .inl (E.2.1, 12, .inl (fun zz => nI ((va_up (shf Hh n i) i h) zz)))), (aw, .inl (E.2.1, 12, .inl (fun zz => nI ((va_up (shf Wr n i) i 0) zz))))] HZ) e4 hP
          have hD : va_D AZ [(o, .inr (1, [.int (nI (n + 1)), .ref ap, .ref ah, .ref aw])), (ap, .inl (E.2.1, 12, .inl (fun zz => nI ((insA P n (insI P x n) x) zz)))), (ah, .inl (E.2.1, 12, .inl (fun zz => nI ((va_up (shf Hh n i) i h) zz)))), (aw, .inl (E.2.1, 12, .inl (fun zz => nI ((va_up (shf Wr n i) i 0) zz))))] := Eq.subst (motive := fun XX : Nat → Nat => va_D AZ [(o, .inr (1, [.int (nI (n + 1)), .ref ap, .ref ah, .ref aw])), (ap, .inl (E.2.1, 12, .inl (fun zz => nI (XX zz)))), (ah, .inl (E.2.1, 12, .inl (fun zz => nI ((va_up (shf Hh n i) i h) zz)))), (aw, .inl (E.2.1, 12, .inl (fun zz => nI ((va_up (shf Wr n i) i 0) zz))))]) e4 hD
          have e5 : (va_up (shf Hh n i) i h : Nat → Nat) = insA Hh n (insI P x n) h := by first | rfl | (unfold insA; rw [hk])
          have hP : va_P E.1 vwCl [(o, .inr (1, [.int (nI (n + 1)), .ref ap, .ref ah, .ref aw])), (ap, .inl (E.2.1, 12, .inl (fun zz => nI ((insA P n (insI P x n) x) zz)))), (ah, .inl (E.2.1, 12, .inl (fun zz => nI ((insA Hh n (insI P x n) h) zz)))), (aw, .inl (E.2.1, 12, .inl (fun zz => nI ((va_up (shf Wr n i) i 0) zz))))] HZ := Eq.subst (motive := fun XX : Nat → Nat => va_P E.1 vwCl [(o, .inr (1, [.int (nI (n + 1)), .ref ap, .ref ah, .ref aw])), (ap, .inl (E.2.1, 12, .inl (fun zz => nI ((insA P n (insI P x n) x) zz)))), (ah, .inl (E.2.1, 12, .inl (fun zz => nI (XX zz)))), (aw, .inl (E.2.1, 12, .inl (fun zz => nI ((va_up (shf Wr n i) i 0) zz))))] HZ) e5 hP
          have hD : va_D AZ [(o, .inr (1, [.int (nI (n + 1)), .ref ap, .ref ah, .ref aw])), (ap, .inl (E.2.1, 12, .inl (fun zz => nI ((insA P n (insI P x n) x) zz)))), (ah, .inl (E.2.1, 12, .inl (fun zz => nI ((insA Hh n (insI P x n) h) zz)))), (aw, .inl (E.2.1, 12, .inl (fun zz => nI ((va_up (shf Wr n i) i 0) zz))))] := Eq.subst (motive := fun XX : Nat → Nat => va_D AZ [(o, .inr (1, [.int (nI (n + 1)), .ref ap, .ref ah, .ref aw])), (ap, .inl (E.2.1, 12, .inl (fun zz => nI ((insA P n (insI P x n) x) zz)))), (ah, .inl (E.2.1, 12, .inl (fun zz => nI (XX zz)))), (aw, .inl (E.2.1, 12, .inl (fun zz => nI ((va_up (shf Wr n i) i 0) zz))))]) e5 hD
          have e6 : (va_up (shf Wr n i) i 0 : Nat → Nat) = insA Wr n (insI P x n) 0 := by first | rfl | (unfold insA; rw [hk])
          have hP : va_P E.1 vwCl [(o, .inr (1, [.int (nI (n + 1)), .ref ap, .ref ah, .ref aw])), (ap, .inl (E.2.1, 12, .inl (fun zz => nI ((insA P n (insI P x n) x) zz)))), (ah, .inl (E.2.1, 12, .inl (fun zz => nI ((insA Hh n (insI P x n) h) zz)))), (aw, .inl (E.2.1, 12, .inl (fun zz => nI ((insA Wr n (insI P x n) 0) zz))))] HZ := Eq.subst (motive := fun XX : Nat → Nat => va_P E.1 vwCl [(o, .inr (1, [.int (nI (n + 1)), .ref ap, .ref ah, .ref aw])), (ap, .inl (E.2.1, 12, .inl (fun zz => nI ((insA P n (insI P x n) x) zz)))), (ah, .inl (E.2.1, 12, .inl (fun zz => nI ((insA Hh n (insI P x n) h) zz)))), (aw, .inl (E.2.1, 12, .inl (fun zz => nI (XX zz))))] HZ) e6 hP
          have hD : va_D AZ [(o, .inr (1, [.int (nI (n + 1)), .ref ap, .ref ah, .ref aw])), (ap, .inl (E.2.1, 12, .inl (fun zz => nI ((insA P n (insI P x n) x) zz)))), (ah, .inl (E.2.1, 12, .inl (fun zz => nI ((insA Hh n (insI P x n) h) zz)))), (aw, .inl (E.2.1, 12, .inl (fun zz => nI ((insA Wr n (insI P x n) 0) zz))))] := Eq.subst (motive := fun XX : Nat → Nat => va_D AZ [(o, .inr (1, [.int (nI (n + 1)), .ref ap, .ref ah, .ref aw])), (ap, .inl (E.2.1, 12, .inl (fun zz => nI ((insA P n (insI P x n) x) zz)))), (ah, .inl (E.2.1, 12, .inl (fun zz => nI ((insA Hh n (insI P x n) h) zz)))), (aw, .inl (E.2.1, 12, .inl (fun zz => nI (XX zz))))]) e6 hD
          exact hret _ _ _ _ _ _ hP hS dX1_insert_114 rfl ⟨by rw [hk], rfl⟩
        · -- 17 f
          refine lv_aload_n hx hb dX1_insert_20 rfl (lv_at hl 1 rfl) ?_
          refine va_get (D := E.1) (ci := 1) (v := .ref ap) (C := RX1) (T := TX1) (N := 4) hx hb hts iwX1_insert_X1_c_X1_insert hown hG.1 hP 0 rfl rfl 1 (by decide) (hts (.fieldLink RX1 9 "FrettedStrings$Neck" "positions" "[I") (by decide +kernel)) (fun _ h9 => h9) rfl dX1_insert_21 ?_
          refine lv_iload_n hx hb dX1_insert_24 rfl (lv_at hl 0 rfl) ?_
          refine lv_iconst (v := nI 1) hx hb dX1_insert_25 (by decide) ?_
          refine z_isub (a := i) (b := 1) hx hb dX1_insert_26 (by omega) ?_
          refine z_iald (j := i - 1) (v := (shf P n i) (i - 1)) hx hb hG hP 1 rfl (by omega) (by decide) (rfl) dX1_insert_27 ?_
          refine lv_iload_n hx hb dX1_insert_28 rfl (lv_at hl 2 rfl) ?_
          refine z_icmp_le (a := (shf P n i) (i - 1)) (b := x) (tgt := 80) hx hb dX1_insert_29 (by decide) (by first | omega | (rw [shf_p]; exact Nat.lt_of_le_of_lt (hPb _ (by omega)) (by omega))) (by first | omega | (rw [shf_p]; exact Nat.lt_of_le_of_lt (hPb _ (by omega)) (by omega))) (fun c7 => ?_) (fun c7 => ?_)
          · -- 29 t
            have hk : insI P x n = i := by first | (rw [hI]; exact ins_e (by omega) (by assumption)) | (rw [hI]; (obtain rfl : i = 0 := by assumption); rfl)
            refine lv_aload_n hx hb dX1_insert_80 rfl (lv_at hl 1 rfl) ?_
            refine va_get (D := E.1) (ci := 1) (v := .ref ap) (C := RX1) (T := TX1) (N := 4) hx hb hts iwX1_insert_X1_c_X1_insert hown hG.1 hP 0 rfl rfl 1 (by decide) (hts (.fieldLink RX1 9 "FrettedStrings$Neck" "positions" "[I") (by decide +kernel)) (fun _ h9 => h9) rfl dX1_insert_81 ?_
            refine lv_iload_n hx hb dX1_insert_84 rfl (lv_at hl 0 rfl) ?_
            refine lv_iload_n hx hb dX1_insert_85 rfl (lv_at hl 2 rfl) ?_
            refine z_iast (j := i) (v := x) (g := va_up (shf P n i) i x) hx hb hG hP hD hS 1 rfl (by omega) (by decide) (rfl) dX1_insert_86 (fun HZ locsZ hP hD hS => ?_)
            have hP : va_P E.1 vwCl [(o, .inr (1, [.int (nI n), .ref ap, .ref ah, .ref aw])), (ap, .inl (E.2.1, 12, .inl (fun zz => nI ((va_up (shf P n i) i x) zz)))), (ah, .inl (E.2.1, 12, .inl (fun zz => nI ((shf Hh n i) zz)))), (aw, .inl (E.2.1, 12, .inl (fun zz => nI ((shf Wr n i) zz))))] _ := hP
            have hD : va_D AZ [(o, .inr (1, [.int (nI n), .ref ap, .ref ah, .ref aw])), (ap, .inl (E.2.1, 12, .inl (fun zz => nI ((va_up (shf P n i) i x) zz)))), (ah, .inl (E.2.1, 12, .inl (fun zz => nI ((shf Hh n i) zz)))), (aw, .inl (E.2.1, 12, .inl (fun zz => nI ((shf Wr n i) zz))))] := hD
            refine lv_aload_n hx hb dX1_insert_87 rfl (lv_at hl 1 rfl) ?_
            refine va_get (D := E.1) (ci := 1) (v := .ref ah) (C := RX1) (T := TX1) (N := 4) hx hb hts iwX1_insert_X1_c_X1_insert hown hG.1 hP 0 rfl rfl 2 (by decide) (hts (.fieldLink RX1 15 "FrettedStrings$Neck" "heights" "[I") (by decide +kernel)) (fun _ h9 => h9) rfl dX1_insert_88 ?_
            refine lv_iload_n hx hb dX1_insert_91 rfl (lv_at hl 0 rfl) ?_
            refine lv_iload_n hx hb dX1_insert_92 rfl (lv_at hl 3 rfl) ?_
            refine z_iast (j := i) (v := h) (g := va_up (shf Hh n i) i h) hx hb hG hP hD hS 2 rfl (by omega) (by decide) (rfl) dX1_insert_93 (fun HZ locsZ hP hD hS => ?_)
            have hP : va_P E.1 vwCl [(o, .inr (1, [.int (nI n), .ref ap, .ref ah, .ref aw])), (ap, .inl (E.2.1, 12, .inl (fun zz => nI ((va_up (shf P n i) i x) zz)))), (ah, .inl (E.2.1, 12, .inl (fun zz => nI ((va_up (shf Hh n i) i h) zz)))), (aw, .inl (E.2.1, 12, .inl (fun zz => nI ((shf Wr n i) zz))))] _ := hP
            have hD : va_D AZ [(o, .inr (1, [.int (nI n), .ref ap, .ref ah, .ref aw])), (ap, .inl (E.2.1, 12, .inl (fun zz => nI ((va_up (shf P n i) i x) zz)))), (ah, .inl (E.2.1, 12, .inl (fun zz => nI ((va_up (shf Hh n i) i h) zz)))), (aw, .inl (E.2.1, 12, .inl (fun zz => nI ((shf Wr n i) zz))))] := hD
            refine lv_aload_n hx hb dX1_insert_94 rfl (lv_at hl 1 rfl) ?_
            refine va_get (D := E.1) (ci := 1) (v := .ref aw) (C := RX1) (T := TX1) (N := 4) hx hb hts iwX1_insert_X1_c_X1_insert hown hG.1 hP 0 rfl rfl 3 (by decide) (hts (.fieldLink RX1 18 "FrettedStrings$Neck" "wears" "[I") (by decide +kernel)) (fun _ h9 => h9) rfl dX1_insert_95 ?_
            refine lv_iload_n hx hb dX1_insert_98 rfl (lv_at hl 0 rfl) ?_
            refine lv_iconst (v := nI 0) hx hb dX1_insert_99 (by decide) ?_
            refine z_iast (j := i) (v := 0) (g := va_up (shf Wr n i) i 0) hx hb hG hP hD hS 3 rfl (by omega) (by decide) (rfl) dX1_insert_100 (fun HZ locsZ hP hD hS => ?_)
            have hP : va_P E.1 vwCl [(o, .inr (1, [.int (nI n), .ref ap, .ref ah, .ref aw])), (ap, .inl (E.2.1, 12, .inl (fun zz => nI ((va_up (shf P n i) i x) zz)))), (ah, .inl (E.2.1, 12, .inl (fun zz => nI ((va_up (shf Hh n i) i h) zz)))), (aw, .inl (E.2.1, 12, .inl (fun zz => nI ((va_up (shf Wr n i) i 0) zz))))] _ := hP
            have hD : va_D AZ [(o, .inr (1, [.int (nI n), .ref ap, .ref ah, .ref aw])), (ap, .inl (E.2.1, 12, .inl (fun zz => nI ((va_up (shf P n i) i x) zz)))), (ah, .inl (E.2.1, 12, .inl (fun zz => nI ((va_up (shf Hh n i) i h) zz)))), (aw, .inl (E.2.1, 12, .inl (fun zz => nI ((va_up (shf Wr n i) i 0) zz))))] := hD
            refine lv_aload_n hx hb dX1_insert_101 rfl (lv_at hl 1 rfl) ?_
            refine lv_dup hx hb dX1_insert_102 rfl ?_
            refine va_get (D := E.1) (ci := 1) (v := .int (nI n)) (C := RX1) (T := TX1) (N := 4) hx hb hts iwX1_insert_X1_c_X1_insert hown hG.1 hP 0 rfl rfl 0 (by decide) (hts (.fieldLink RX1 21 "FrettedStrings$Neck" "frets" "I") (by decide +kernel)) (fun _ h9 => h9) rfl dX1_insert_103 ?_
            refine lv_iconst (v := nI 1) hx hb dX1_insert_106 (by decide) ?_
            refine z_iadd (a := n) (b := 1) hx hb dX1_insert_107 ?_
            refine va_put (D := E.1) (ci := 1) (v := .int (nI (n + 1))) (ty := .int) (C := RX1) (T := TX1) (N := 4) hx hb hts iwX1_insert_X1_c_X1_insert tyX1 tyX1_ok nmX1 hown hG.1 hP hD hS 0 rfl rfl 0 (by decide) (hts (.fieldLink RX1 21 "FrettedStrings$Neck" "frets" "I") (by decide +kernel)) (fun _ h9 => h9) rfl (by decide +kernel) rfl rfl (Nat.le_of_ble_eq_true rfl) dX1_insert_108 (fun HZ locsZ hP hD hS => ?_)
            have hP : va_P E.1 vwCl [(o, .inr (1, [.int (nI (n + 1)), .ref ap, .ref ah, .ref aw])), (ap, .inl (E.2.1, 12, .inl (fun zz => nI ((va_up (shf P n i) i x) zz)))), (ah, .inl (E.2.1, 12, .inl (fun zz => nI ((va_up (shf Hh n i) i h) zz)))), (aw, .inl (E.2.1, 12, .inl (fun zz => nI ((va_up (shf Wr n i) i 0) zz))))] _ := hP
            have hD : va_D AZ [(o, .inr (1, [.int (nI (n + 1)), .ref ap, .ref ah, .ref aw])), (ap, .inl (E.2.1, 12, .inl (fun zz => nI ((va_up (shf P n i) i x) zz)))), (ah, .inl (E.2.1, 12, .inl (fun zz => nI ((va_up (shf Hh n i) i h) zz)))), (aw, .inl (E.2.1, 12, .inl (fun zz => nI ((va_up (shf Wr n i) i 0) zz))))] := hD
            refine lv_iload_n hx hb dX1_insert_111 rfl (lv_at hl 0 rfl) ?_
            refine lv_iconst (v := nI 1) hx hb dX1_insert_112 (by decide) ?_
            refine z_iadd (a := i) (b := 1) hx hb dX1_insert_113 ?_
            have e8 : (va_up (shf P n i) i x : Nat → Nat) = insA P n (insI P x n) x := by first | rfl | (unfold insA; rw [hk])
            have hP : va_P E.1 vwCl [(o, .inr (1, [.int (nI (n + 1)), .ref ap, .ref ah, .ref aw])), (ap, .inl (E.2.1, 12, .inl (fun zz => nI ((insA P n (insI P x n) x) zz)))), (ah, .inl (E.2.1, 12, .inl (fun zz => nI ((va_up (shf Hh n i) i h) zz)))), (aw, .inl (E.2.1, 12, .inl (fun zz => nI ((va_up (shf Wr n i) i 0) zz))))] HZ := Eq.subst (motive := fun XX : Nat → Nat => va_P E.1 vwCl [(o, .inr (1, [.int (nI (n + 1)), .ref ap, .ref ah, .ref aw])), (ap, .inl (E.2.1, 12, .inl (fun zz => nI (XX zz)))), (ah, .inl (E.2.1, 12, .inl (fun zz => nI ((va_up (shf Hh n i) i h) zz)))), (aw, .inl (E.2.1, 12, .inl (fun zz => nI ((va_up (shf Wr n i) i 0) zz))))] HZ) e8 hP
            have hD : va_D AZ [(o, .inr (1, [.int (nI (n + 1)), .ref ap, .ref ah, .ref aw])), (ap, .inl (E.2.1, 12, .inl (fun zz => nI ((insA P n (insI P x n) x) zz)))), (ah, .inl (E.2.1, 12, .inl (fun zz => nI ((va_up (shf Hh n i) i h) zz)))), (aw, .inl (E.2.1, 12, .inl (fun zz => nI ((va_up (shf Wr n i) i 0) zz))))] := Eq.subst (motive := fun XX : Nat → Nat => va_D AZ [(o, .inr (1, [.int (nI (n + 1)), .ref ap, .ref ah, .ref aw])), (ap, .inl (E.2.1, 12, .inl (fun zz => nI (XX zz)))), (ah, .inl (E.2.1, 12, .inl (fun zz => nI ((va_up (shf Hh n i) i h) zz)))), (aw, .inl (E.2.1, 12, .inl (fun zz => nI ((va_up (shf Wr n i) i 0) zz))))]) e8 hD
            have e9 : (va_up (shf Hh n i) i h : Nat → Nat) = insA Hh n (insI P x n) h := by first | rfl | (unfold insA; rw [hk])
            have hP : va_P E.1 vwCl [(o, .inr (1, [.int (nI (n + 1)), .ref ap, .ref ah, .ref aw])), (ap, .inl (E.2.1, 12, .inl (fun zz => nI ((insA P n (insI P x n) x) zz)))), (ah, .inl (E.2.1, 12, .inl (fun zz => nI ((insA Hh n (insI P x n) h) zz)))), (aw, .inl (E.2.1, 12, .inl (fun zz => nI ((va_up (shf Wr n i) i 0) zz))))] HZ := Eq.subst (motive := fun XX : Nat → Nat => va_P E.1 vwCl [(o, .inr (1, [.int (nI (n + 1)), .ref ap, .ref ah, .ref aw])), (ap, .inl (E.2.1, 12, .inl (fun zz => nI ((insA P n (insI P x n) x) zz)))), (ah, .inl (E.2.1, 12, .inl (fun zz => nI (XX zz)))), (aw, .inl (E.2.1, 12, .inl (fun zz => nI ((va_up (shf Wr n i) i 0) zz))))] HZ) e9 hP
            have hD : va_D AZ [(o, .inr (1, [.int (nI (n + 1)), .ref ap, .ref ah, .ref aw])), (ap, .inl (E.2.1, 12, .inl (fun zz => nI ((insA P n (insI P x n) x) zz)))), (ah, .inl (E.2.1, 12, .inl (fun zz => nI ((insA Hh n (insI P x n) h) zz)))), (aw, .inl (E.2.1, 12, .inl (fun zz => nI ((va_up (shf Wr n i) i 0) zz))))] := Eq.subst (motive := fun XX : Nat → Nat => va_D AZ [(o, .inr (1, [.int (nI (n + 1)), .ref ap, .ref ah, .ref aw])), (ap, .inl (E.2.1, 12, .inl (fun zz => nI ((insA P n (insI P x n) x) zz)))), (ah, .inl (E.2.1, 12, .inl (fun zz => nI (XX zz)))), (aw, .inl (E.2.1, 12, .inl (fun zz => nI ((va_up (shf Wr n i) i 0) zz))))]) e9 hD
            have e10 : (va_up (shf Wr n i) i 0 : Nat → Nat) = insA Wr n (insI P x n) 0 := by first | rfl | (unfold insA; rw [hk])
            have hP : va_P E.1 vwCl [(o, .inr (1, [.int (nI (n + 1)), .ref ap, .ref ah, .ref aw])), (ap, .inl (E.2.1, 12, .inl (fun zz => nI ((insA P n (insI P x n) x) zz)))), (ah, .inl (E.2.1, 12, .inl (fun zz => nI ((insA Hh n (insI P x n) h) zz)))), (aw, .inl (E.2.1, 12, .inl (fun zz => nI ((insA Wr n (insI P x n) 0) zz))))] HZ := Eq.subst (motive := fun XX : Nat → Nat => va_P E.1 vwCl [(o, .inr (1, [.int (nI (n + 1)), .ref ap, .ref ah, .ref aw])), (ap, .inl (E.2.1, 12, .inl (fun zz => nI ((insA P n (insI P x n) x) zz)))), (ah, .inl (E.2.1, 12, .inl (fun zz => nI ((insA Hh n (insI P x n) h) zz)))), (aw, .inl (E.2.1, 12, .inl (fun zz => nI (XX zz))))] HZ) e10 hP
            have hD : va_D AZ [(o, .inr (1, [.int (nI (n + 1)), .ref ap, .ref ah, .ref aw])), (ap, .inl (E.2.1, 12, .inl (fun zz => nI ((insA P n (insI P x n) x) zz)))), (ah, .inl (E.2.1, 12, .inl (fun zz => nI ((insA Hh n (insI P x n) h) zz)))), (aw, .inl (E.2.1, 12, .inl (fun zz => nI ((insA Wr n (insI P x n) 0) zz))))] := Eq.subst (motive := fun XX : Nat → Nat => va_D AZ [(o, .inr (1, [.int (nI (n + 1)), .ref ap, .ref ah, .ref aw])), (ap, .inl (E.2.1, 12, .inl (fun zz => nI ((insA P n (insI P x n) x) zz)))), (ah, .inl (E.2.1, 12, .inl (fun zz => nI ((insA Hh n (insI P x n) h) zz)))), (aw, .inl (E.2.1, 12, .inl (fun zz => nI (XX zz))))]) e10 hD
            exact hret _ _ _ _ _ _ hP hS dX1_insert_114 rfl ⟨by rw [hk], rfl⟩
          · -- 29 f
            refine lv_aload_n hx hb dX1_insert_32 rfl (lv_at hl 1 rfl) ?_
            refine va_get (D := E.1) (ci := 1) (v := .ref ap) (C := RX1) (T := TX1) (N := 4) hx hb hts iwX1_insert_X1_c_X1_insert hown hG.1 hP 0 rfl rfl 1 (by decide) (hts (.fieldLink RX1 9 "FrettedStrings$Neck" "positions" "[I") (by decide +kernel)) (fun _ h9 => h9) rfl dX1_insert_33 ?_
            refine lv_iload_n hx hb dX1_insert_36 rfl (lv_at hl 0 rfl) ?_
            refine lv_aload_n hx hb dX1_insert_37 rfl (lv_at hl 1 rfl) ?_
            refine va_get (D := E.1) (ci := 1) (v := .ref ap) (C := RX1) (T := TX1) (N := 4) hx hb hts iwX1_insert_X1_c_X1_insert hown hG.1 hP 0 rfl rfl 1 (by decide) (hts (.fieldLink RX1 9 "FrettedStrings$Neck" "positions" "[I") (by decide +kernel)) (fun _ h9 => h9) rfl dX1_insert_38 ?_
            refine lv_iload_n hx hb dX1_insert_41 rfl (lv_at hl 0 rfl) ?_
            refine lv_iconst (v := nI 1) hx hb dX1_insert_42 (by decide) ?_
            refine z_isub (a := i) (b := 1) hx hb dX1_insert_43 (by omega) ?_
            refine z_iald (j := i - 1) (v := (shf P n i) (i - 1)) hx hb hG hP 1 rfl (by omega) (by decide) (rfl) dX1_insert_44 ?_
            refine z_iast (j := i) (v := (shf P n i) (i - 1)) (g := va_up (shf P n i) i ((shf P n i) (i - 1))) hx hb hG hP hD hS 1 rfl (by omega) (by decide) (rfl) dX1_insert_45 (fun HZ locsZ hP hD hS => ?_)
            have hP : va_P E.1 vwCl [(o, .inr (1, [.int (nI n), .ref ap, .ref ah, .ref aw])), (ap, .inl (E.2.1, 12, .inl (fun zz => nI ((va_up (shf P n i) i ((shf P n i) (i - 1))) zz)))), (ah, .inl (E.2.1, 12, .inl (fun zz => nI ((shf Hh n i) zz)))), (aw, .inl (E.2.1, 12, .inl (fun zz => nI ((shf Wr n i) zz))))] _ := hP
            have hD : va_D AZ [(o, .inr (1, [.int (nI n), .ref ap, .ref ah, .ref aw])), (ap, .inl (E.2.1, 12, .inl (fun zz => nI ((va_up (shf P n i) i ((shf P n i) (i - 1))) zz)))), (ah, .inl (E.2.1, 12, .inl (fun zz => nI ((shf Hh n i) zz)))), (aw, .inl (E.2.1, 12, .inl (fun zz => nI ((shf Wr n i) zz))))] := hD
            refine lv_aload_n hx hb dX1_insert_46 rfl (lv_at hl 1 rfl) ?_
            refine va_get (D := E.1) (ci := 1) (v := .ref ah) (C := RX1) (T := TX1) (N := 4) hx hb hts iwX1_insert_X1_c_X1_insert hown hG.1 hP 0 rfl rfl 2 (by decide) (hts (.fieldLink RX1 15 "FrettedStrings$Neck" "heights" "[I") (by decide +kernel)) (fun _ h9 => h9) rfl dX1_insert_47 ?_
            refine lv_iload_n hx hb dX1_insert_50 rfl (lv_at hl 0 rfl) ?_
            refine lv_aload_n hx hb dX1_insert_51 rfl (lv_at hl 1 rfl) ?_
            refine va_get (D := E.1) (ci := 1) (v := .ref ah) (C := RX1) (T := TX1) (N := 4) hx hb hts iwX1_insert_X1_c_X1_insert hown hG.1 hP 0 rfl rfl 2 (by decide) (hts (.fieldLink RX1 15 "FrettedStrings$Neck" "heights" "[I") (by decide +kernel)) (fun _ h9 => h9) rfl dX1_insert_52 ?_
            refine lv_iload_n hx hb dX1_insert_55 rfl (lv_at hl 0 rfl) ?_
            refine lv_iconst (v := nI 1) hx hb dX1_insert_56 (by decide) ?_
            refine z_isub (a := i) (b := 1) hx hb dX1_insert_57 (by omega) ?_
            refine z_iald (j := i - 1) (v := (shf Hh n i) (i - 1)) hx hb hG hP 2 rfl (by omega) (by decide) (rfl) dX1_insert_58 ?_
            refine z_iast (j := i) (v := (shf Hh n i) (i - 1)) (g := va_up (shf Hh n i) i ((shf Hh n i) (i - 1))) hx hb hG hP hD hS 2 rfl (by omega) (by decide) (rfl) dX1_insert_59 (fun HZ locsZ hP hD hS => ?_)
            have hP : va_P E.1 vwCl [(o, .inr (1, [.int (nI n), .ref ap, .ref ah, .ref aw])), (ap, .inl (E.2.1, 12, .inl (fun zz => nI ((va_up (shf P n i) i ((shf P n i) (i - 1))) zz)))), (ah, .inl (E.2.1, 12, .inl (fun zz => nI ((va_up (shf Hh n i) i ((shf Hh n i) (i - 1))) zz)))), (aw, .inl (E.2.1, 12, .inl (fun zz => nI ((shf Wr n i) zz))))] _ := hP
            have hD : va_D AZ [(o, .inr (1, [.int (nI n), .ref ap, .ref ah, .ref aw])), (ap, .inl (E.2.1, 12, .inl (fun zz => nI ((va_up (shf P n i) i ((shf P n i) (i - 1))) zz)))), (ah, .inl (E.2.1, 12, .inl (fun zz => nI ((va_up (shf Hh n i) i ((shf Hh n i) (i - 1))) zz)))), (aw, .inl (E.2.1, 12, .inl (fun zz => nI ((shf Wr n i) zz))))] := hD
            refine lv_aload_n hx hb dX1_insert_60 rfl (lv_at hl 1 rfl) ?_
            refine va_get (D := E.1) (ci := 1) (v := .ref aw) (C := RX1) (T := TX1) (N := 4) hx hb hts iwX1_insert_X1_c_X1_insert hown hG.1 hP 0 rfl rfl 3 (by decide) (hts (.fieldLink RX1 18 "FrettedStrings$Neck" "wears" "[I") (by decide +kernel)) (fun _ h9 => h9) rfl dX1_insert_61 ?_
            refine lv_iload_n hx hb dX1_insert_64 rfl (lv_at hl 0 rfl) ?_
            refine lv_aload_n hx hb dX1_insert_65 rfl (lv_at hl 1 rfl) ?_
            refine va_get (D := E.1) (ci := 1) (v := .ref aw) (C := RX1) (T := TX1) (N := 4) hx hb hts iwX1_insert_X1_c_X1_insert hown hG.1 hP 0 rfl rfl 3 (by decide) (hts (.fieldLink RX1 18 "FrettedStrings$Neck" "wears" "[I") (by decide +kernel)) (fun _ h9 => h9) rfl dX1_insert_66 ?_
            refine lv_iload_n hx hb dX1_insert_69 rfl (lv_at hl 0 rfl) ?_
            refine lv_iconst (v := nI 1) hx hb dX1_insert_70 (by decide) ?_
            refine z_isub (a := i) (b := 1) hx hb dX1_insert_71 (by omega) ?_
            refine z_iald (j := i - 1) (v := (shf Wr n i) (i - 1)) hx hb hG hP 3 rfl (by omega) (by decide) (rfl) dX1_insert_72 ?_
            refine z_iast (j := i) (v := (shf Wr n i) (i - 1)) (g := va_up (shf Wr n i) i ((shf Wr n i) (i - 1))) hx hb hG hP hD hS 3 rfl (by omega) (by decide) (rfl) dX1_insert_73 (fun HZ locsZ hP hD hS => ?_)
            have hP : va_P E.1 vwCl [(o, .inr (1, [.int (nI n), .ref ap, .ref ah, .ref aw])), (ap, .inl (E.2.1, 12, .inl (fun zz => nI ((va_up (shf P n i) i ((shf P n i) (i - 1))) zz)))), (ah, .inl (E.2.1, 12, .inl (fun zz => nI ((va_up (shf Hh n i) i ((shf Hh n i) (i - 1))) zz)))), (aw, .inl (E.2.1, 12, .inl (fun zz => nI ((va_up (shf Wr n i) i ((shf Wr n i) (i - 1))) zz))))] _ := hP
            have hD : va_D AZ [(o, .inr (1, [.int (nI n), .ref ap, .ref ah, .ref aw])), (ap, .inl (E.2.1, 12, .inl (fun zz => nI ((va_up (shf P n i) i ((shf P n i) (i - 1))) zz)))), (ah, .inl (E.2.1, 12, .inl (fun zz => nI ((va_up (shf Hh n i) i ((shf Hh n i) (i - 1))) zz)))), (aw, .inl (E.2.1, 12, .inl (fun zz => nI ((va_up (shf Wr n i) i ((shf Wr n i) (i - 1))) zz))))] := hD
            refine z_idec (k := 0) (lv' := [(3, .int (nI (i - 1))), (0, .ref o), (1, .int (nI x)), (2, .int (nI h))]) hx hb dX1_insert_74 (by decide) hl rfl (by omega) (by decide) rfl (fun ls hl => ?_)
            refine lv_goto (tgt := 16) hx hb dX1_insert_77 (by decide) ?_
            have e11 : (va_up (shf P n i) i ((shf P n i) (i - 1)) : Nat → Nat) = shf P n (i - 1) := by first | rfl | (exact shf_s P (by omega) (by omega))
            have hP : va_P E.1 vwCl [(o, .inr (1, [.int (nI n), .ref ap, .ref ah, .ref aw])), (ap, .inl (E.2.1, 12, .inl (fun zz => nI ((shf P n (i - 1)) zz)))), (ah, .inl (E.2.1, 12, .inl (fun zz => nI ((va_up (shf Hh n i) i ((shf Hh n i) (i - 1))) zz)))), (aw, .inl (E.2.1, 12, .inl (fun zz => nI ((va_up (shf Wr n i) i ((shf Wr n i) (i - 1))) zz))))] HZ := Eq.subst (motive := fun XX : Nat → Nat => va_P E.1 vwCl [(o, .inr (1, [.int (nI n), .ref ap, .ref ah, .ref aw])), (ap, .inl (E.2.1, 12, .inl (fun zz => nI (XX zz)))), (ah, .inl (E.2.1, 12, .inl (fun zz => nI ((va_up (shf Hh n i) i ((shf Hh n i) (i - 1))) zz)))), (aw, .inl (E.2.1, 12, .inl (fun zz => nI ((va_up (shf Wr n i) i ((shf Wr n i) (i - 1))) zz))))] HZ) e11 hP
            have hD : va_D AZ [(o, .inr (1, [.int (nI n), .ref ap, .ref ah, .ref aw])), (ap, .inl (E.2.1, 12, .inl (fun zz => nI ((shf P n (i - 1)) zz)))), (ah, .inl (E.2.1, 12, .inl (fun zz => nI ((va_up (shf Hh n i) i ((shf Hh n i) (i - 1))) zz)))), (aw, .inl (E.2.1, 12, .inl (fun zz => nI ((va_up (shf Wr n i) i ((shf Wr n i) (i - 1))) zz))))] := Eq.subst (motive := fun XX : Nat → Nat => va_D AZ [(o, .inr (1, [.int (nI n), .ref ap, .ref ah, .ref aw])), (ap, .inl (E.2.1, 12, .inl (fun zz => nI (XX zz)))), (ah, .inl (E.2.1, 12, .inl (fun zz => nI ((va_up (shf Hh n i) i ((shf Hh n i) (i - 1))) zz)))), (aw, .inl (E.2.1, 12, .inl (fun zz => nI ((va_up (shf Wr n i) i ((shf Wr n i) (i - 1))) zz))))]) e11 hD
            have e12 : (va_up (shf Hh n i) i ((shf Hh n i) (i - 1)) : Nat → Nat) = shf Hh n (i - 1) := by first | rfl | (exact shf_s Hh (by omega) (by omega))
            have hP : va_P E.1 vwCl [(o, .inr (1, [.int (nI n), .ref ap, .ref ah, .ref aw])), (ap, .inl (E.2.1, 12, .inl (fun zz => nI ((shf P n (i - 1)) zz)))), (ah, .inl (E.2.1, 12, .inl (fun zz => nI ((shf Hh n (i - 1)) zz)))), (aw, .inl (E.2.1, 12, .inl (fun zz => nI ((va_up (shf Wr n i) i ((shf Wr n i) (i - 1))) zz))))] HZ := Eq.subst (motive := fun XX : Nat → Nat => va_P E.1 vwCl [(o, .inr (1, [.int (nI n), .ref ap, .ref ah, .ref aw])), (ap, .inl (E.2.1, 12, .inl (fun zz => nI ((shf P n (i - 1)) zz)))), (ah, .inl (E.2.1, 12, .inl (fun zz => nI (XX zz)))), (aw, .inl (E.2.1, 12, .inl (fun zz => nI ((va_up (shf Wr n i) i ((shf Wr n i) (i - 1))) zz))))] HZ) e12 hP
            have hD : va_D AZ [(o, .inr (1, [.int (nI n), .ref ap, .ref ah, .ref aw])), (ap, .inl (E.2.1, 12, .inl (fun zz => nI ((shf P n (i - 1)) zz)))), (ah, .inl (E.2.1, 12, .inl (fun zz => nI ((shf Hh n (i - 1)) zz)))), (aw, .inl (E.2.1, 12, .inl (fun zz => nI ((va_up (shf Wr n i) i ((shf Wr n i) (i - 1))) zz))))] := Eq.subst (motive := fun XX : Nat → Nat => va_D AZ [(o, .inr (1, [.int (nI n), .ref ap, .ref ah, .ref aw])), (ap, .inl (E.2.1, 12, .inl (fun zz => nI ((shf P n (i - 1)) zz)))), (ah, .inl (E.2.1, 12, .inl (fun zz => nI (XX zz)))), (aw, .inl (E.2.1, 12, .inl (fun zz => nI ((va_up (shf Wr n i) i ((shf Wr n i) (i - 1))) zz))))]) e12 hD
            have e13 : (va_up (shf Wr n i) i ((shf Wr n i) (i - 1)) : Nat → Nat) = shf Wr n (i - 1) := by first | rfl | (exact shf_s Wr (by omega) (by omega))
            have hP : va_P E.1 vwCl [(o, .inr (1, [.int (nI n), .ref ap, .ref ah, .ref aw])), (ap, .inl (E.2.1, 12, .inl (fun zz => nI ((shf P n (i - 1)) zz)))), (ah, .inl (E.2.1, 12, .inl (fun zz => nI ((shf Hh n (i - 1)) zz)))), (aw, .inl (E.2.1, 12, .inl (fun zz => nI ((shf Wr n (i - 1)) zz))))] HZ := Eq.subst (motive := fun XX : Nat → Nat => va_P E.1 vwCl [(o, .inr (1, [.int (nI n), .ref ap, .ref ah, .ref aw])), (ap, .inl (E.2.1, 12, .inl (fun zz => nI ((shf P n (i - 1)) zz)))), (ah, .inl (E.2.1, 12, .inl (fun zz => nI ((shf Hh n (i - 1)) zz)))), (aw, .inl (E.2.1, 12, .inl (fun zz => nI (XX zz))))] HZ) e13 hP
            have hD : va_D AZ [(o, .inr (1, [.int (nI n), .ref ap, .ref ah, .ref aw])), (ap, .inl (E.2.1, 12, .inl (fun zz => nI ((shf P n (i - 1)) zz)))), (ah, .inl (E.2.1, 12, .inl (fun zz => nI ((shf Hh n (i - 1)) zz)))), (aw, .inl (E.2.1, 12, .inl (fun zz => nI ((shf Wr n (i - 1)) zz))))] := Eq.subst (motive := fun XX : Nat → Nat => va_D AZ [(o, .inr (1, [.int (nI n), .ref ap, .ref ah, .ref aw])), (ap, .inl (E.2.1, 12, .inl (fun zz => nI ((shf P n (i - 1)) zz)))), (ah, .inl (E.2.1, 12, .inl (fun zz => nI ((shf Hh n (i - 1)) zz)))), (aw, .inl (E.2.1, 12, .inl (fun zz => nI (XX zz))))]) e13 hD
            exact ih16 (i - 1) (by omega) (by omega) (by rw [hI]; exact ins_b (by omega) (by assumption)) _ _ hP hD hS _ (lv_sub hl [0, 1, 2, 3] rfl)
    have e14 : (P : Nat → Nat) = shf P n n := by first | rfl | (exact (shf_n P n).symm)
    have hP : va_P E.1 vwCl [(o, .inr (1, [.int (nI n), .ref ap, .ref ah, .ref aw])), (ap, .inl (E.2.1, 12, .inl (fun zz => nI ((shf P n n) zz)))), (ah, .inl (E.2.1, 12, .inl (fun zz => nI (Hh zz)))), (aw, .inl (E.2.1, 12, .inl (fun zz => nI (Wr zz))))] HZ := Eq.subst (motive := fun XX : Nat → Nat => va_P E.1 vwCl [(o, .inr (1, [.int (nI n), .ref ap, .ref ah, .ref aw])), (ap, .inl (E.2.1, 12, .inl (fun zz => nI (XX zz)))), (ah, .inl (E.2.1, 12, .inl (fun zz => nI (Hh zz)))), (aw, .inl (E.2.1, 12, .inl (fun zz => nI (Wr zz))))] HZ) e14 hP
    have hD : va_D AZ [(o, .inr (1, [.int (nI n), .ref ap, .ref ah, .ref aw])), (ap, .inl (E.2.1, 12, .inl (fun zz => nI ((shf P n n) zz)))), (ah, .inl (E.2.1, 12, .inl (fun zz => nI (Hh zz)))), (aw, .inl (E.2.1, 12, .inl (fun zz => nI (Wr zz))))] := Eq.subst (motive := fun XX : Nat → Nat => va_D AZ [(o, .inr (1, [.int (nI n), .ref ap, .ref ah, .ref aw])), (ap, .inl (E.2.1, 12, .inl (fun zz => nI (XX zz)))), (ah, .inl (E.2.1, 12, .inl (fun zz => nI (Hh zz)))), (aw, .inl (E.2.1, 12, .inl (fun zz => nI (Wr zz))))]) e14 hD
    have e15 : (Hh : Nat → Nat) = shf Hh n n := by first | rfl | (exact (shf_n Hh n).symm)
    have hP : va_P E.1 vwCl [(o, .inr (1, [.int (nI n), .ref ap, .ref ah, .ref aw])), (ap, .inl (E.2.1, 12, .inl (fun zz => nI ((shf P n n) zz)))), (ah, .inl (E.2.1, 12, .inl (fun zz => nI ((shf Hh n n) zz)))), (aw, .inl (E.2.1, 12, .inl (fun zz => nI (Wr zz))))] HZ := Eq.subst (motive := fun XX : Nat → Nat => va_P E.1 vwCl [(o, .inr (1, [.int (nI n), .ref ap, .ref ah, .ref aw])), (ap, .inl (E.2.1, 12, .inl (fun zz => nI ((shf P n n) zz)))), (ah, .inl (E.2.1, 12, .inl (fun zz => nI (XX zz)))), (aw, .inl (E.2.1, 12, .inl (fun zz => nI (Wr zz))))] HZ) e15 hP
    have hD : va_D AZ [(o, .inr (1, [.int (nI n), .ref ap, .ref ah, .ref aw])), (ap, .inl (E.2.1, 12, .inl (fun zz => nI ((shf P n n) zz)))), (ah, .inl (E.2.1, 12, .inl (fun zz => nI ((shf Hh n n) zz)))), (aw, .inl (E.2.1, 12, .inl (fun zz => nI (Wr zz))))] := Eq.subst (motive := fun XX : Nat → Nat => va_D AZ [(o, .inr (1, [.int (nI n), .ref ap, .ref ah, .ref aw])), (ap, .inl (E.2.1, 12, .inl (fun zz => nI ((shf P n n) zz)))), (ah, .inl (E.2.1, 12, .inl (fun zz => nI (XX zz)))), (aw, .inl (E.2.1, 12, .inl (fun zz => nI (Wr zz))))]) e15 hD
    have e16 : (Wr : Nat → Nat) = shf Wr n n := by first | rfl | (exact (shf_n Wr n).symm)
    have hP : va_P E.1 vwCl [(o, .inr (1, [.int (nI n), .ref ap, .ref ah, .ref aw])), (ap, .inl (E.2.1, 12, .inl (fun zz => nI ((shf P n n) zz)))), (ah, .inl (E.2.1, 12, .inl (fun zz => nI ((shf Hh n n) zz)))), (aw, .inl (E.2.1, 12, .inl (fun zz => nI ((shf Wr n n) zz))))] HZ := Eq.subst (motive := fun XX : Nat → Nat => va_P E.1 vwCl [(o, .inr (1, [.int (nI n), .ref ap, .ref ah, .ref aw])), (ap, .inl (E.2.1, 12, .inl (fun zz => nI ((shf P n n) zz)))), (ah, .inl (E.2.1, 12, .inl (fun zz => nI ((shf Hh n n) zz)))), (aw, .inl (E.2.1, 12, .inl (fun zz => nI (XX zz))))] HZ) e16 hP
    have hD : va_D AZ [(o, .inr (1, [.int (nI n), .ref ap, .ref ah, .ref aw])), (ap, .inl (E.2.1, 12, .inl (fun zz => nI ((shf P n n) zz)))), (ah, .inl (E.2.1, 12, .inl (fun zz => nI ((shf Hh n n) zz)))), (aw, .inl (E.2.1, 12, .inl (fun zz => nI ((shf Wr n n) zz))))] := Eq.subst (motive := fun XX : Nat → Nat => va_D AZ [(o, .inr (1, [.int (nI n), .ref ap, .ref ah, .ref aw])), (ap, .inl (E.2.1, 12, .inl (fun zz => nI ((shf P n n) zz)))), (ah, .inl (E.2.1, 12, .inl (fun zz => nI ((shf Hh n n) zz)))), (aw, .inl (E.2.1, 12, .inl (fun zz => nI (XX zz))))]) e16 hD
    exact L16_2 (n + 1) n (Nat.lt_succ_self _) (by omega) (rfl) _ _ hP hD hS _ (lv_sub hl [0, 1, 2, 3] rfl)
  · -- 6 f
    omega
theorem iwX1_wearBy_X1_c_X1_wearBy : ∀ w ∈ wsX10, w ∈ wsX1_wearBy := by decide +kernel
set_option maxHeartbeats 1000000 in
set_option maxRecDepth 100000 in
theorem c_X1_wearBy (l : Launch) (E : zE) (o ap ah aw n f q per : Nat) (P Hh Wr : Nat → Nat) (hn : n ≤ 12) (hf : f ≤ n) (hHb : ∀ i, i < 12 → Hh i ≤ 2000) (hWb : ∀ i, i < 12 → Wr i ≤ 1000000000) (hq : q ≤ 1000) (hp0 : 1 ≤ per) (hp1 : per ≤ 1000000) : zM l yX1_wearBy wsX1_wearBy ({ frames := 2, cells := 0, slots := 0, locals := 43 }) E [.ref o, .int (nI f), .int (nI q), .int (nI per)] [(o, .inr (1, [.int (nI n), .ref ap, .ref ah, .ref aw])), (ap, .inl (E.2.1, 12, .inl (fun zz => nI (P zz)))), (ah, .inl (E.2.1, 12, .inl (fun zz => nI (Hh zz)))), (aw, .inl (E.2.1, 12, .inl (fun zz => nI (Wr zz))))] (fun r w' => r = nI (wlost Hh Wr f q per) ∧ w' = [(o, .inr (1, [.int (nI n), .ref ap, .ref ah, .ref aw])), (ap, .inl (E.2.1, 12, .inl (fun zz => nI (P zz)))), (ah, .inl (E.2.1, 12, .inl (fun zz => nI ((wH Hh Wr f q per) zz)))), (aw, .inl (E.2.1, 12, .inl (fun zz => nI ((wW Hh Wr f q per) zz))))]) := by
  refine zM.start (own := RX1) rfl (by decide +kernel) rfl (Nat.le_of_ble_eq_true rfl) (fun _ _ _ => rfl) ?_
  intro pZ eZ sZ mZ argsZ belowZ methZ cZ QZ AZ hF hret HZ locsZ hP hD hS hG ls hl
  obtain ⟨hx, hb, hml, hown, hts⟩ := id hF
  have hl : lv_has ls 6 [(0, .ref o), (1, .int (nI f)), (2, .int (nI q)), (3, .int (nI per))] := hl
  refine lv_aload_n hx hb dX1_wearBy_0 rfl (lv_at hl 0 rfl) ?_
  refine lv_iload_n hx hb dX1_wearBy_1 rfl (lv_at hl 1 rfl) ?_
  have hPc := zP_sub (w := [(o, .inr (1, [.int (nI n), .ref ap, .ref ah, .ref aw]))]) hP [0] rfl
  refine z_rd (fun _ h => h) (va_runV (As := [.int (nI f)]) (rest := []) hF (c_X1_hasN l E o ap ah aw n f (by omega) (by omega)) (cwV 1 hts gX1_wearBy_X1_has rfl rfl rfl (by decide +kernel) ⟨Nat.le_of_ble_eq_true rfl, Nat.le_of_ble_eq_true rfl⟩) (z_preRV (va_recv hG.1 hP (ci := 1) (q0 := 0) rfl rfl) hPc hG) rfl rfl hl.1 rfl (lv_room (Nat.le_of_ble_eq_true rfl)) dX1_wearBy_2 ⟨Nat.zero_le _, Nat.zero_le _⟩) (fun r1 hr1 => ?_)
  rcases hr1 with ⟨rfl, c2⟩ | ⟨rfl, c2⟩
  · -- 2 t
    refine lv_if_eq (tgt := 13) hx hb dX1_wearBy_5 (by decide) (fun c => absurd c (by decide)) (fun _ => ?_)
    refine lv_iload_n hx hb dX1_wearBy_8 rfl (lv_at hl 3 rfl) ?_
    refine lv_iconst (v := nI 1) hx hb dX1_wearBy_9 (by decide) ?_
    refine z_icmp_ge (a := per) (b := 1) (tgt := 15) hx hb dX1_wearBy_10 (by decide) (by omega) (by omega) (fun c3 => ?_) (fun c3 => ?_)
    · -- 10 t
      refine lv_iload_n hx hb dX1_wearBy_15 rfl (lv_at hl 1 rfl) ?_
      refine lv_iconst (v := nI 1) hx hb dX1_wearBy_16 (by decide) ?_
      refine z_isub (a := f) (b := 1) hx hb dX1_wearBy_17 (by omega) ?_
      refine lv_istore (lv' := [(4, .int (nI (f - 1))), (0, .ref o), (1, .int (nI f)), (2, .int (nI q)), (3, .int (nI per))]) hx hb dX1_wearBy_18 hl (by decide) rfl (fun ls hl => ?_)
      refine lv_aload_n hx hb dX1_wearBy_20 rfl (lv_at hl 1 rfl) ?_
      refine va_get (D := E.1) (ci := 1) (v := .ref aw) (C := RX1) (T := TX1) (N := 4) hx hb hts iwX1_wearBy_X1_c_X1_wearBy hown hG.1 hP 0 rfl rfl 3 (by decide) (hts (.fieldLink RX1 18 "FrettedStrings$Neck" "wears" "[I") (by decide +kernel)) (fun _ h9 => h9) rfl dX1_wearBy_21 ?_
      refine lv_iload hx hb dX1_wearBy_24 (lv_at hl 0 rfl) ?_
      refine lv_dup2_11 hx hb dX1_wearBy_26 rfl rfl ?_
      refine z_iald (j := f - 1) (v := Wr (f - 1)) hx hb hG hP 3 rfl (by omega) (by decide) (rfl) dX1_wearBy_27 ?_
      have b4 := hWb (f - 1) (by omega)
      refine lv_iload_n hx hb dX1_wearBy_28 rfl (lv_at hl 3 rfl) ?_
      refine z_iadd (a := Wr (f - 1)) (b := q) hx hb dX1_wearBy_29 ?_
      refine z_iast (j := f - 1) (v := (Wr (f - 1)) + q) (g := va_up Wr (f - 1) ((Wr (f - 1)) + q)) hx hb hG hP hD hS 3 rfl (by omega) (by decide) (rfl) dX1_wearBy_30 (fun HZ locsZ hP hD hS => ?_)
      have hP : va_P E.1 vwCl [(o, .inr (1, [.int (nI n), .ref ap, .ref ah, .ref aw])), (ap, .inl (E.2.1, 12, .inl (fun zz => nI (P zz)))), (ah, .inl (E.2.1, 12, .inl (fun zz => nI (Hh zz)))), (aw, .inl (E.2.1, 12, .inl (fun zz => nI ((va_up Wr (f - 1) ((Wr (f - 1)) + q)) zz))))] _ := hP
      have hD : va_D AZ [(o, .inr (1, [.int (nI n), .ref ap, .ref ah, .ref aw])), (ap, .inl (E.2.1, 12, .inl (fun zz => nI (P zz)))), (ah, .inl (E.2.1, 12, .inl (fun zz => nI (Hh zz)))), (aw, .inl (E.2.1, 12, .inl (fun zz => nI ((va_up Wr (f - 1) ((Wr (f - 1)) + q)) zz))))] := hD
      refine lv_iconst (v := nI 0) hx hb dX1_wearBy_31 (by decide) ?_
      refine lv_aload_n hx hb dX1_wearBy_32 rfl (lv_at hl 1 rfl) ?_
      refine va_get (D := E.1) (ci := 1) (v := .ref ah) (C := RX1) (T := TX1) (N := 4) hx hb hts iwX1_wearBy_X1_c_X1_wearBy hown hG.1 hP 0 rfl rfl 2 (by decide) (hts (.fieldLink RX1 15 "FrettedStrings$Neck" "heights" "[I") (by decide +kernel)) (fun _ h9 => h9) rfl dX1_wearBy_33 ?_
      refine lv_iload hx hb dX1_wearBy_36 (lv_at hl 0 rfl) ?_
      refine z_iald (j := f - 1) (v := Hh (f - 1)) hx hb hG hP 2 rfl (by omega) (by decide) (rfl) dX1_wearBy_38 ?_
      have b5 := hHb (f - 1) (by omega)
      refine lv_aload_n hx hb dX1_wearBy_39 rfl (lv_at hl 1 rfl) ?_
      refine va_get (D := E.1) (ci := 1) (v := .ref aw) (C := RX1) (T := TX1) (N := 4) hx hb hts iwX1_wearBy_X1_c_X1_wearBy hown hG.1 hP 0 rfl rfl 3 (by decide) (hts (.fieldLink RX1 18 "FrettedStrings$Neck" "wears" "[I") (by decide +kernel)) (fun _ h9 => h9) rfl dX1_wearBy_40 ?_
      refine lv_iload hx hb dX1_wearBy_43 (lv_at hl 0 rfl) ?_
      refine z_iald (j := f - 1) (v := (Wr (f - 1)) + q) hx hb hG hP 3 rfl (by omega) (by decide) (va_up_at) dX1_wearBy_45 ?_
      have hdv : (Wr (f - 1) + q) / per ≤ Wr (f - 1) + q := Nat.div_le_self _ _
      have hwb := hWb (f - 1) (by omega)
      refine lv_iload_n hx hb dX1_wearBy_46 rfl (lv_at hl 4 rfl) ?_
      refine z_idiv (a := (Wr (f - 1)) + q) (b := per) hx hb dX1_wearBy_47 (by omega) (by omega) (by omega) ?_
      refine z_mmin (a := Hh (f - 1)) (b := ((Wr (f - 1)) + q) / per) hx hb (hml.trans hl.1.symm) hown (hts (.methodLink RX1 43 Lib.Math.min.name) (by decide +kernel)) (hts (.static Lib.Math.min.name) (by decide +kernel)) (hts (.initialized "java/lang/Math") (by decide +kernel)) (hts (.code Lib.Math.min.name Lib.Math.min.code 2 (some .int)) (by decide +kernel)) (Nat.le_of_ble_eq_true rfl) (Nat.le_of_ble_eq_true rfl) (Nat.zero_le _) (Nat.zero_le _) (by omega) (by omega) dX1_wearBy_48 ?_
      refine z_mmax (a := 0) (b := min (Hh (f - 1)) (((Wr (f - 1)) + q) / per)) hx hb (hml.trans hl.1.symm) hown (hts (.methodLink RX1 49 Lib.Math.max.name) (by decide +kernel)) (hts (.static Lib.Math.max.name) (by decide +kernel)) (hts (.initialized "java/lang/Math") (by decide +kernel)) (hts (.code Lib.Math.max.name Lib.Math.max.code 2 (some .int)) (by decide +kernel)) (Nat.le_of_ble_eq_true rfl) (Nat.le_of_ble_eq_true rfl) (Nat.zero_le _) (Nat.zero_le _) (by omega) (by omega) dX1_wearBy_51 ?_
      refine lv_istore (lv' := [(5, .int (nI (max 0 (min (Hh (f - 1)) (((Wr (f - 1)) + q) / per))))), (4, .int (nI (f - 1))), (0, .ref o), (1, .int (nI f)), (2, .int (nI q)), (3, .int (nI per))]) hx hb dX1_wearBy_54 hl (by decide) rfl (fun ls hl => ?_)
      refine lv_aload_n hx hb dX1_wearBy_56 rfl (lv_at hl 2 rfl) ?_
      refine va_get (D := E.1) (ci := 1) (v := .ref aw) (C := RX1) (T := TX1) (N := 4) hx hb hts iwX1_wearBy_X1_c_X1_wearBy hown hG.1 hP 0 rfl rfl 3 (by decide) (hts (.fieldLink RX1 18 "FrettedStrings$Neck" "wears" "[I") (by decide +kernel)) (fun _ h9 => h9) rfl dX1_wearBy_57 ?_
      refine lv_iload hx hb dX1_wearBy_60 (lv_at hl 1 rfl) ?_
      refine lv_dup2_11 hx hb dX1_wearBy_62 rfl rfl ?_
      refine z_iald (j := f - 1) (v := (Wr (f - 1)) + q) hx hb hG hP 3 rfl (by omega) (by decide) (va_up_at) dX1_wearBy_63 ?_
      refine lv_iload hx hb dX1_wearBy_64 (lv_at hl 0 rfl) ?_
      have hlp : max 0 (min (Hh (f - 1)) ((Wr (f - 1) + q) / per)) * per ≤ Wr (f - 1) + q := wl_le
      refine lv_iload_n hx hb dX1_wearBy_66 rfl (lv_at hl 5 rfl) ?_
      refine z_imul (a := max 0 (min (Hh (f - 1)) (((Wr (f - 1)) + q) / per))) (b := per) hx hb dX1_wearBy_67 ?_
      refine z_isub (a := (Wr (f - 1)) + q) (b := (max 0 (min (Hh (f - 1)) (((Wr (f - 1)) + q) / per))) * per) hx hb dX1_wearBy_68 (by omega) ?_
      refine z_iast (j := f - 1) (v := ((Wr (f - 1)) + q) - ((max 0 (min (Hh (f - 1)) (((Wr (f - 1)) + q) / per))) * per)) (g := va_up Wr (f - 1) (((Wr (f - 1)) + q) - ((max 0 (min (Hh (f - 1)) (((Wr (f - 1)) + q) / per))) * per))) hx hb hG hP hD hS 3 rfl (by omega) (by decide) (va_up_up) dX1_wearBy_69 (fun HZ locsZ hP hD hS => ?_)
      have hP : va_P E.1 vwCl [(o, .inr (1, [.int (nI n), .ref ap, .ref ah, .ref aw])), (ap, .inl (E.2.1, 12, .inl (fun zz => nI (P zz)))), (ah, .inl (E.2.1, 12, .inl (fun zz => nI (Hh zz)))), (aw, .inl (E.2.1, 12, .inl (fun zz => nI ((va_up Wr (f - 1) (((Wr (f - 1)) + q) - ((max 0 (min (Hh (f - 1)) (((Wr (f - 1)) + q) / per))) * per))) zz))))] _ := hP
      have hD : va_D AZ [(o, .inr (1, [.int (nI n), .ref ap, .ref ah, .ref aw])), (ap, .inl (E.2.1, 12, .inl (fun zz => nI (P zz)))), (ah, .inl (E.2.1, 12, .inl (fun zz => nI (Hh zz)))), (aw, .inl (E.2.1, 12, .inl (fun zz => nI ((va_up Wr (f - 1) (((Wr (f - 1)) + q) - ((max 0 (min (Hh (f - 1)) (((Wr (f - 1)) + q) / per))) * per))) zz))))] := hD
      refine lv_aload_n hx hb dX1_wearBy_70 rfl (lv_at hl 2 rfl) ?_
      refine va_get (D := E.1) (ci := 1) (v := .ref ah) (C := RX1) (T := TX1) (N := 4) hx hb hts iwX1_wearBy_X1_c_X1_wearBy hown hG.1 hP 0 rfl rfl 2 (by decide) (hts (.fieldLink RX1 15 "FrettedStrings$Neck" "heights" "[I") (by decide +kernel)) (fun _ h9 => h9) rfl dX1_wearBy_71 ?_
      refine lv_iload hx hb dX1_wearBy_74 (lv_at hl 1 rfl) ?_
      refine lv_dup2_11 hx hb dX1_wearBy_76 rfl rfl ?_
      refine z_iald (j := f - 1) (v := Hh (f - 1)) hx hb hG hP 2 rfl (by omega) (by decide) (rfl) dX1_wearBy_77 ?_
      have b6 := hHb (f - 1) (by omega)
      refine lv_iload hx hb dX1_wearBy_78 (lv_at hl 0 rfl) ?_
      refine z_isub (a := Hh (f - 1)) (b := max 0 (min (Hh (f - 1)) (((Wr (f - 1)) + q) / per))) hx hb dX1_wearBy_80 (by omega) ?_
      refine z_iast (j := f - 1) (v := (Hh (f - 1)) - (max 0 (min (Hh (f - 1)) (((Wr (f - 1)) + q) / per)))) (g := va_up Hh (f - 1) ((Hh (f - 1)) - (max 0 (min (Hh (f - 1)) (((Wr (f - 1)) + q) / per))))) hx hb hG hP hD hS 2 rfl (by omega) (by decide) (rfl) dX1_wearBy_81 (fun HZ locsZ hP hD hS => ?_)
      have hP : va_P E.1 vwCl [(o, .inr (1, [.int (nI n), .ref ap, .ref ah, .ref aw])), (ap, .inl (E.2.1, 12, .inl (fun zz => nI (P zz)))), (ah, .inl (E.2.1, 12, .inl (fun zz => nI ((va_up Hh (f - 1) ((Hh (f - 1)) - (max 0 (min (Hh (f - 1)) (((Wr (f - 1)) + q) / per))))) zz)))), (aw, .inl (E.2.1, 12, .inl (fun zz => nI ((va_up Wr (f - 1) (((Wr (f - 1)) + q) - ((max 0 (min (Hh (f - 1)) (((Wr (f - 1)) + q) / per))) * per))) zz))))] _ := hP
      have hD : va_D AZ [(o, .inr (1, [.int (nI n), .ref ap, .ref ah, .ref aw])), (ap, .inl (E.2.1, 12, .inl (fun zz => nI (P zz)))), (ah, .inl (E.2.1, 12, .inl (fun zz => nI ((va_up Hh (f - 1) ((Hh (f - 1)) - (max 0 (min (Hh (f - 1)) (((Wr (f - 1)) + q) / per))))) zz)))), (aw, .inl (E.2.1, 12, .inl (fun zz => nI ((va_up Wr (f - 1) (((Wr (f - 1)) + q) - ((max 0 (min (Hh (f - 1)) (((Wr (f - 1)) + q) / per))) * per))) zz))))] := hD
      refine lv_iload hx hb dX1_wearBy_82 (lv_at hl 0 rfl) ?_
      have e7 : (va_up Hh (f - 1) ((Hh (f - 1)) - (max 0 (min (Hh (f - 1)) (((Wr (f - 1)) + q) / per)))) : Nat → Nat) = wH Hh Wr f q per := by first | rfl | (unfold wH wlost; first | rw [if_neg (by omega), if_neg (by omega), Nat.zero_max] | rw [if_pos (by omega)])
      have hP : va_P E.1 vwCl [(o, .inr (1, [.int (nI n), .ref ap, .ref ah, .ref aw])), (ap, .inl (E.2.1, 12, .inl (fun zz => nI (P zz)))), (ah, .inl (E.2.1, 12, .inl (fun zz => nI ((wH Hh Wr f q per) zz)))), (aw, .inl (E.2.1, 12, .inl (fun zz => nI ((va_up Wr (f - 1) (((Wr (f - 1)) + q) - ((max 0 (min (Hh (f - 1)) (((Wr (f - 1)) + q) / per))) * per))) zz))))] HZ := Eq.subst (motive := fun XX : Nat → Nat => va_P E.1 vwCl [(o, .inr (1, [.int (nI n), .ref ap, .ref ah, .ref aw])), (ap, .inl (E.2.1, 12, .inl (fun zz => nI (P zz)))), (ah, .inl (E.2.1, 12, .inl (fun zz => nI (XX zz)))), (aw, .inl (E.2.1, 12, .inl (fun zz => nI ((va_up Wr (f - 1) (((Wr (f - 1)) + q) - ((max 0 (min (Hh (f - 1)) (((Wr (f - 1)) + q) / per))) * per))) zz))))] HZ) e7 hP
      have hD : va_D AZ [(o, .inr (1, [.int (nI n), .ref ap, .ref ah, .ref aw])), (ap, .inl (E.2.1, 12, .inl (fun zz => nI (P zz)))), (ah, .inl (E.2.1, 12, .inl (fun zz => nI ((wH Hh Wr f q per) zz)))), (aw, .inl (E.2.1, 12, .inl (fun zz => nI ((va_up Wr (f - 1) (((Wr (f - 1)) + q) - ((max 0 (min (Hh (f - 1)) (((Wr (f - 1)) + q) / per))) * per))) zz))))] := Eq.subst (motive := fun XX : Nat → Nat => va_D AZ [(o, .inr (1, [.int (nI n), .ref ap, .ref ah, .ref aw])), (ap, .inl (E.2.1, 12, .inl (fun zz => nI (P zz)))), (ah, .inl (E.2.1, 12, .inl (fun zz => nI (XX zz)))), (aw, .inl (E.2.1, 12, .inl (fun zz => nI ((va_up Wr (f - 1) (((Wr (f - 1)) + q) - ((max 0 (min (Hh (f - 1)) (((Wr (f - 1)) + q) / per))) * per))) zz))))]) e7 hD
      have e8 : (va_up Wr (f - 1) (((Wr (f - 1)) + q) - ((max 0 (min (Hh (f - 1)) (((Wr (f - 1)) + q) / per))) * per)) : Nat → Nat) = wW Hh Wr f q per := by first | rfl | (unfold wW wlost; first | rw [if_neg (by omega), if_neg (by omega), Nat.zero_max] | rw [if_pos (by omega)])
      have hP : va_P E.1 vwCl [(o, .inr (1, [.int (nI n), .ref ap, .ref ah, .ref aw])), (ap, .inl (E.2.1, 12, .inl (fun zz => nI (P zz)))), (ah, .inl (E.2.1, 12, .inl (fun zz => nI ((wH Hh Wr f q per) zz)))), (aw, .inl (E.2.1, 12, .inl (fun zz => nI ((wW Hh Wr f q per) zz))))] HZ := Eq.subst (motive := fun XX : Nat → Nat => va_P E.1 vwCl [(o, .inr (1, [.int (nI n), .ref ap, .ref ah, .ref aw])), (ap, .inl (E.2.1, 12, .inl (fun zz => nI (P zz)))), (ah, .inl (E.2.1, 12, .inl (fun zz => nI ((wH Hh Wr f q per) zz)))), (aw, .inl (E.2.1, 12, .inl (fun zz => nI (XX zz))))] HZ) e8 hP
      have hD : va_D AZ [(o, .inr (1, [.int (nI n), .ref ap, .ref ah, .ref aw])), (ap, .inl (E.2.1, 12, .inl (fun zz => nI (P zz)))), (ah, .inl (E.2.1, 12, .inl (fun zz => nI ((wH Hh Wr f q per) zz)))), (aw, .inl (E.2.1, 12, .inl (fun zz => nI ((wW Hh Wr f q per) zz))))] := Eq.subst (motive := fun XX : Nat → Nat => va_D AZ [(o, .inr (1, [.int (nI n), .ref ap, .ref ah, .ref aw])), (ap, .inl (E.2.1, 12, .inl (fun zz => nI (P zz)))), (ah, .inl (E.2.1, 12, .inl (fun zz => nI ((wH Hh Wr f q per) zz)))), (aw, .inl (E.2.1, 12, .inl (fun zz => nI (XX zz))))]) e8 hD
      exact hret _ _ _ _ _ _ hP hS dX1_wearBy_84 rfl ⟨by unfold wlost; rw [if_neg (by omega), Nat.zero_max], rfl⟩
    · -- 10 f
      omega
  · -- 2 f
    refine lv_if_eq (tgt := 13) hx hb dX1_wearBy_5 (by decide) (fun _ => ?_) (fun c => absurd c (by decide))
    refine lv_iconst (v := nI 0) hx hb dX1_wearBy_13 (by decide) ?_
    have e9 : (Hh : Nat → Nat) = wH Hh Wr f q per := by first | rfl | (unfold wH wlost; first | rw [if_neg (by omega), if_neg (by omega), Nat.zero_max] | rw [if_pos (by omega)])
    have hP : va_P E.1 vwCl [(o, .inr (1, [.int (nI n), .ref ap, .ref ah, .ref aw])), (ap, .inl (E.2.1, 12, .inl (fun zz => nI (P zz)))), (ah, .inl (E.2.1, 12, .inl (fun zz => nI ((wH Hh Wr f q per) zz)))), (aw, .inl (E.2.1, 12, .inl (fun zz => nI (Wr zz))))] HZ := Eq.subst (motive := fun XX : Nat → Nat => va_P E.1 vwCl [(o, .inr (1, [.int (nI n), .ref ap, .ref ah, .ref aw])), (ap, .inl (E.2.1, 12, .inl (fun zz => nI (P zz)))), (ah, .inl (E.2.1, 12, .inl (fun zz => nI (XX zz)))), (aw, .inl (E.2.1, 12, .inl (fun zz => nI (Wr zz))))] HZ) e9 hP
    have hD : va_D AZ [(o, .inr (1, [.int (nI n), .ref ap, .ref ah, .ref aw])), (ap, .inl (E.2.1, 12, .inl (fun zz => nI (P zz)))), (ah, .inl (E.2.1, 12, .inl (fun zz => nI ((wH Hh Wr f q per) zz)))), (aw, .inl (E.2.1, 12, .inl (fun zz => nI (Wr zz))))] := Eq.subst (motive := fun XX : Nat → Nat => va_D AZ [(o, .inr (1, [.int (nI n), .ref ap, .ref ah, .ref aw])), (ap, .inl (E.2.1, 12, .inl (fun zz => nI (P zz)))), (ah, .inl (E.2.1, 12, .inl (fun zz => nI (XX zz)))), (aw, .inl (E.2.1, 12, .inl (fun zz => nI (Wr zz))))]) e9 hD
    have e10 : (Wr : Nat → Nat) = wW Hh Wr f q per := by first | rfl | (unfold wW wlost; first | rw [if_neg (by omega), if_neg (by omega), Nat.zero_max] | rw [if_pos (by omega)])
    have hP : va_P E.1 vwCl [(o, .inr (1, [.int (nI n), .ref ap, .ref ah, .ref aw])), (ap, .inl (E.2.1, 12, .inl (fun zz => nI (P zz)))), (ah, .inl (E.2.1, 12, .inl (fun zz => nI ((wH Hh Wr f q per) zz)))), (aw, .inl (E.2.1, 12, .inl (fun zz => nI ((wW Hh Wr f q per) zz))))] HZ := Eq.subst (motive := fun XX : Nat → Nat => va_P E.1 vwCl [(o, .inr (1, [.int (nI n), .ref ap, .ref ah, .ref aw])), (ap, .inl (E.2.1, 12, .inl (fun zz => nI (P zz)))), (ah, .inl (E.2.1, 12, .inl (fun zz => nI ((wH Hh Wr f q per) zz)))), (aw, .inl (E.2.1, 12, .inl (fun zz => nI (XX zz))))] HZ) e10 hP
    have hD : va_D AZ [(o, .inr (1, [.int (nI n), .ref ap, .ref ah, .ref aw])), (ap, .inl (E.2.1, 12, .inl (fun zz => nI (P zz)))), (ah, .inl (E.2.1, 12, .inl (fun zz => nI ((wH Hh Wr f q per) zz)))), (aw, .inl (E.2.1, 12, .inl (fun zz => nI ((wW Hh Wr f q per) zz))))] := Eq.subst (motive := fun XX : Nat → Nat => va_D AZ [(o, .inr (1, [.int (nI n), .ref ap, .ref ah, .ref aw])), (ap, .inl (E.2.1, 12, .inl (fun zz => nI (P zz)))), (ah, .inl (E.2.1, 12, .inl (fun zz => nI ((wH Hh Wr f q per) zz)))), (aw, .inl (E.2.1, 12, .inl (fun zz => nI (XX zz))))]) e10 hD
    exact hret _ _ _ _ _ _ hP hS dX1_wearBy_14 rfl ⟨by unfold wlost; rw [if_pos (by omega)], rfl⟩
