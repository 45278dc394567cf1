theorem iwX0_rowAt_X0_c_X0_rowAt : ∀ w ∈ wsX00, w ∈ wsX0_rowAt := by decide +kernel
set_option maxHeartbeats 1000000 in
set_option maxRecDepth 100000 in
theorem c_X0_rowAt (l : Launch) (E : zE) (hi rw hz old k zA zB zC zD : Nat) (hold : old ≤ 3) (hk4 : k ≤ 4) : zRq l yX0_rowAt wsX0_rowAt ({ frames := 0, cells := 0, slots := 0, locals := 0 }) E [.ref hi, .int (nI k)] [(hi, .inr (0, [.int (nI hz), .int (nI old), .ref rw])), (rw, .inl (E.2.2.2, 4, .inr (.inr (.inr (.inr (rr4 zA zB zC zD))))))] (fun r => (r = zA ∧ (old + k) % 4 = 0) ∨ (r = zB ∧ (old + k) % 4 = 1) ∨ (r = zC ∧ (old + k) % 4 = 2) ∨ (r = zD ∧ (old + k) % 4 = 3)) := by
  refine zRq.start (own := RX0) rfl (by decide +kernel) rfl (Nat.le_of_ble_eq_true rfl) ?_
  intro pZ eZ sZ mZ argsZ belowZ methZ cZ QZ hF hret hP hG ls hl
  obtain ⟨hx, hb, hml, hown, hts⟩ := id hF
  have hl : lv_has ls 3 [(0, .ref hi), (1, .int (nI k))] := hl
  refine lv_aload_n hx hb dX0_rowAt_0 rfl (lv_at hl 0 rfl) ?_
  refine va_get (D := E.1) (ci := 0) (v := .int (nI old)) (C := RX0) (T := TX0) (N := 3) hx hb hts iwX0_rowAt_X0_c_X0_rowAt hown hG.1 hP 0 rfl rfl 1 (by decide) (hts (.fieldLink RX0 22 "FrettedStrings$History" "oldest" "I") (by decide +kernel)) (fun _ h9 => h9) rfl dX0_rowAt_1 ?_
  refine lv_iload_n hx hb dX0_rowAt_4 rfl (lv_at hl 1 rfl) ?_
  refine z_iadd (a := old) (b := k) hx hb dX0_rowAt_5 ?_
  refine lv_iconst (v := nI 4) hx hb dX0_rowAt_6 (by decide) ?_
  refine z_irem (a := old + k) (b := 4) hx hb dX0_rowAt_7 (by omega) (by omega) (by omega) ?_
  refine lv_istore_n (lv' := [(2, .int (nI ((old + k) % 4))), (0, .ref hi), (1, .int (nI k))]) hx hb dX0_rowAt_8 rfl hl (by decide) rfl (fun ls hl => ?_)
  refine lv_iload_n hx hb dX0_rowAt_9 rfl (lv_at hl 2 rfl) ?_
  refine z_if_lt (tgt := 35) hx hb dX0_rowAt_10 (by decide) (by omega) ?_
  refine lv_iload_n hx hb dX0_rowAt_13 rfl (lv_at hl 0 rfl) ?_
  refine z_if_lt (tgt := 35) hx hb dX0_rowAt_14 (by decide) (by omega) ?_
  refine lv_iload_n hx hb dX0_rowAt_17 rfl (lv_at hl 0 rfl) ?_
  refine lv_aload_n hx hb dX0_rowAt_18 rfl (lv_at hl 1 rfl) ?_
  refine va_get (D := E.1) (ci := 0) (v := .ref rw) (C := RX0) (T := TX0) (N := 3) hx hb hts iwX0_rowAt_X0_c_X0_rowAt hown hG.1 hP 0 rfl rfl 2 (by decide) (hts (.fieldLink RX0 12 "FrettedStrings$History" "rows" "[LFrettedStrings$State;") (by decide +kernel)) (fun _ h9 => h9) rfl dX0_rowAt_19 ?_
  refine va_alen (v := nI 4) hx hb hG.1 hP 1 2 rfl rfl rfl dX0_rowAt_22 ?_
  refine z_icmp_ge (a := (old + k) % 4) (b := 4) (tgt := 35) hx hb dX0_rowAt_23 (by decide) (by omega) (by omega) (fun c1 => ?_) (fun c1 => ?_)
  · -- 23 t
    omega
  · -- 23 f
    refine lv_aload_n hx hb dX0_rowAt_26 rfl (lv_at hl 1 rfl) ?_
    refine va_get (D := E.1) (ci := 0) (v := .ref rw) (C := RX0) (T := TX0) (N := 3) hx hb hts iwX0_rowAt_X0_c_X0_rowAt hown hG.1 hP 0 rfl rfl 2 (by decide) (hts (.fieldLink RX0 12 "FrettedStrings$History" "rows" "[LFrettedStrings$State;") (by decide +kernel)) (fun _ h9 => h9) rfl dX0_rowAt_27 ?_
    refine lv_iload_n hx hb dX0_rowAt_30 rfl (lv_at hl 0 rfl) ?_
    obtain hk | hk | hk | hk : (old + k) % 4 = 0 ∨ (old + k) % 4 = 1 ∨ (old + k) % 4 = 2 ∨ (old + k) % 4 = 3 := by omega
    · -- row 0
      refine z_aald (j := (old + k) % 4) (v := zA) hx hb hG hP 1 rfl (by omega) (by decide) (by rw [hk]; rfl) dX0_rowAt_31 ?_
      refine lv_goto (tgt := 36) hx hb dX0_rowAt_32 (by decide) ?_
      exact hret _ _ _ dX0_rowAt_36 (Or.inl ⟨rfl, hk⟩)
    · -- row 1
      refine z_aald (j := (old + k) % 4) (v := zB) hx hb hG hP 1 rfl (by omega) (by decide) (by rw [hk]; rfl) dX0_rowAt_31 ?_
      refine lv_goto (tgt := 36) hx hb dX0_rowAt_32 (by decide) ?_
      exact hret _ _ _ dX0_rowAt_36 (Or.inr (Or.inl ⟨rfl, hk⟩))
    · -- row 2
      refine z_aald (j := (old + k) % 4) (v := zC) hx hb hG hP 1 rfl (by omega) (by decide) (by rw [hk]; rfl) dX0_rowAt_31 ?_
      refine lv_goto (tgt := 36) hx hb dX0_rowAt_32 (by decide) ?_
      exact hret _ _ _ dX0_rowAt_36 (Or.inr (Or.inr (Or.inl ⟨rfl, hk⟩)))
    · -- row 3
      refine z_aald (j := (old + k) % 4) (v := zD) hx hb hG hP 1 rfl (by omega) (by decide) (by rw [hk]; rfl) dX0_rowAt_31 ?_
      refine lv_goto (tgt := 36) hx hb dX0_rowAt_32 (by decide) ?_
      exact hret _ _ _ dX0_rowAt_36 (Or.inr (Or.inr (Or.inr (⟨rfl, hk⟩))))
