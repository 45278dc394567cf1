/-! ===== the reference's ticks, plucks and beats ===== -/
theorem fades_e {b w : Nat} {B Wt : Int64} (hB : B = lN b) (hW : Wt = lN w) (hb : b ≤ 1000000) (hw : w ≤ 3000) : (lg_cmp (B - B * Wt / (1000 : Int64)) (0 : Int64) ≤ nI 0 → nI 0 = nI (b - b * w / 1000 - 1)) ∧ (¬ lg_cmp (B - B * Wt / (1000 : Int64)) (0 : Int64) ≤ nI 0 → (B - B * Wt / (1000 : Int64)).toInt32 - nI 1 = nI (b - b * w / 1000 - 1)) := by
  have h1 : b * w ≤ 1000000 * 3000 := Nat.mul_le_mul hb hw
  have h2 : b * w / 1000 ≤ 3000000 := Nat.div_le_of_le_mul (by omega)
  rw [fd_l hB hW hb hw]
  have hle : lg_cmp (Int64.ofInt ((b : Int) - (b * w / 1000 : Nat))) (0 : Int64) ≤ nI 0 ↔ (b : Int) - (b * w / 1000 : Nat) ≤ 0 := by
    rw [show nI 0 = (0 : Int32) from rfl, lg_cmp_le, Int64.le_iff_toInt_le, Int64.toInt_ofInt_of_le (by omega) (by omega)]
    exact Iff.rfl
  rw [hle]
  constructor
  · intro h
    rw [show b - b * w / 1000 - 1 = 0 by omega]
  · intro h
    rw [Int64.toInt32_ofInt, show ((b : Int) - (b * w / 1000 : Nat)) = ((b - b * w / 1000 : Nat) : Int) by omega, iZ_nat, pk_sub (by omega)]
theorem fades_1 {a da : Nat} (ha : a ≤ 1000000) (hd : da ≤ 1000) : (nI a).toInt64 - (nI a).toInt64 * (nI da).toInt64 / (1000 : Int64) = lN (a - a * da / 1000) := by
  have h1 : a * da ≤ 1000000 * 1000 := Nat.mul_le_mul ha hd
  have h2 := da_le (a := a) hd
  rw [nI_l (by omega), nI_l (by omega), lN_mul, show (1000 : Int64) = lN 1000 from rfl, pk_lDiv (by omega) (by omega) (by omega), lN_sub h2]
theorem fades_0 {a : Nat} (ha : a ≤ 1000000) : (nI a).toInt64 - (0 : Int64) = lN a := by
  rw [nI_l (by omega), Int64.sub_zero]
theorem mdm_lo {M : Nat → Nat} {k c s n : Nat} (hs : s < 4) (hn : M 0 ≤ 12) (hpr : ∀ i, i < 4 → mPr M i ≤ M 0) : mSt (gnL M k c) s = mSt M s ∧ mFi (gnL M k c) s = mFi M s := ⟨mSt_lo (fun i hi => gnL_lo M k c i hi) hs hn hpr, gnL_lo M k c _ (by omega)⟩
theorem gn_sk {M : Nat → Nat} {k c : Nat} (hn : M 0 ≤ 12) (hP : ∀ i, i < 12 → mP M i ≤ 2400) (hH : ∀ i, i < 12 → mH M i ≤ 2000) (hpr : ∀ i, i < 4 → mPr M i ≤ M 0) (hfi : ∀ i, i < 4 → mFi M i ≤ 2519) : gnL M k c 0 ≤ 12 ∧ (∀ i, i < 12 → mP (gnL M k c) i ≤ 2400) ∧ (∀ i, i < 12 → mH (gnL M k c) i ≤ 2000) ∧ (∀ i, i < 4 → mPr (gnL M k c) i ≤ gnL M k c 0) ∧ (∀ i, i < 4 → mFi (gnL M k c) i ≤ 2519) := by
  rw [gnL_lo M k c 0 (by omega)]
  refine ⟨hn, fun i hi => ?_, fun i hi => ?_, fun i hi => ?_, fun i hi => ?_⟩
  · unfold mP; rw [gnL_lo _ _ _ _ (by omega)]; exact hP i hi
  · unfold mH; rw [gnL_lo _ _ _ _ (by omega)]; exact hH i hi
  · unfold mPr; rw [gnL_lo _ _ _ _ (by omega)]; exact hpr i hi
  · unfold mFi; rw [gnL_lo _ _ _ _ (by omega)]; exact hfi i hi
