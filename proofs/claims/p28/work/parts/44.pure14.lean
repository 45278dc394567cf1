/-! ===== the reference's calls, I ===== -/
def lvM (M : Nat → Nat) (f h : Nat) : Nat → Nat := va_up (va_up M (9 + 3 * (f - 1) + 1) h) (9 + 3 * (f - 1) + 2) 0
theorem NK_lv {M : Nat → Nat} {f h : Nat} (hf : f ≤ 12) (hh : h ≤ 2000) (k : NK M) : NK (lvM M f h) := by
  obtain ⟨h1, h2, h3, h4⟩ := k
  have e0 : lvM M f h 0 = M 0 := by unfold lvM; simp only [va_up]; rw [if_neg (by omega), if_neg (by omega)]
  refine ⟨by rw [e0]; exact h1, fun i hi => ?_, fun i hi => ?_, fun i hi => ?_⟩
  · unfold mP lvM; simp only [va_up]; rw [if_neg (by omega), if_neg (by omega)]; exact h2 i hi
  · unfold mH lvM; simp only [va_up]; rw [if_neg (by omega)]
    split
    · exact hh
    · exact h3 i hi
  · rw [e0]; unfold mPr lvM; simp only [va_up]; rw [if_neg (by omega), if_neg (by omega)]; exact h4 i hi
theorem NK_mv {M Sd Sb : Nat → Nat} (h : NK M) : NK (mvL M (sdL Sb Sd 4) 4) := NK_of h (fun i hi => mvL_lo _ _ _ _ (by omega))
theorem pk3_hi {M : Nat → Nat} {s y q i : Nat} (hs : s < 4) (h : 61 ≤ i) (h2 : i < 109) : pk3 M s y q i = pk1 M s y q i := by
  unfold pk3
  rw [ntM_lo (by omega) (by omega)]
  unfold pk2
  simp only [va_up]
  rw [if_neg (by omega)]
theorem pk5_hi {M : Nat → Nat} {s y q i : Nat} (hs : s < 4) (k : NK M) (h : 61 ≤ i ∨ i = 8) : pk5 M s y q i = pk3 M s y q i := by
  have h3 := NK3 (y := y) (q := q) hs k
  have a1 : mSo (pk3 M s y q) s ≤ 12 := Nat.le_trans (mSo_le h3.2.2.2 hs) h3.1
  have a2 : pk3 M s y q (45 + 4 * s + 1) ≤ 12 := Nat.le_trans (h3.2.2.2 s hs) h3.1
  unfold pk5
  split
  · unfold pk4; exact wrA_ne (by omega) (by omega) (by omega)
  · rw [wrA_ne (by omega) (by omega) (by omega)]; unfold pk4; exact wrA_ne (by omega) (by omega) (by omega)
theorem pk6_8 {M Sd : Nat → Nat} {s y q : Nat} (hs : s < 4) (k : NK M) : pk6 M Sd s y q 8 = M 8 := by
  unfold pk6
  split
  · exact pk3_lo (by omega) (by omega) (by omega)
  · rw [mvL_lo _ _ _ _ (by omega), pk5_hi hs k (Or.inr rfl)]; exact pk3_lo (by omega) (by omega) (by omega)
theorem pk1_am {M : Nat → Nat} {s y q i : Nat} (h : M i ≤ 1000000) : pk1 M s y q i ≤ 1000000 := by
  unfold pk1
  simp only [pwL]
  split
  · exact Nat.min_le_left _ _
  · exact h
theorem pk6_am {M Sd : Nat → Nat} {s y q : Nat} (hs : s < 4) (k : NK M) (h : ∀ i, i < 48 → mAm M i ≤ 1000000) : ∀ i, i < 48 → mAm (pk6 M Sd s y q) i ≤ 1000000 := by
  intro i hi
  have h1 := pk1_am (M := M) (i := 61 + i) (s := s) (y := y) (q := q) (h i hi)
  unfold mAm
  unfold pk6
  split
  · rw [pk3_hi hs (by omega) (by omega)]; exact h1
  · simp only [mvL]
    split
    · exact Nat.zero_le _
    · rw [pk5_hi hs k (Or.inl (by omega)), pk3_hi hs (by omega) (by omega)]; exact h1
