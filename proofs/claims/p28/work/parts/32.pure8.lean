/-! ===== the reference's loops, as numbers ===== -/
theorem there_a {M : Nat → Nat} {v : Int32} {b g : Nat} (h : (b = 1 ∧ ∃ i, i + 1 < g ∧ nI (mP M i) = v) ∨ (b = 0 ∧ ∀ i, i + 1 < g → nI (mP M i) ≠ v)) (hb : 0 < b) : (1 = 1 ∧ ∃ i, i + 1 < g + 1 ∧ nI (mP M i) = v) ∨ (1 = 0 ∧ ∀ i, i + 1 < g + 1 → nI (mP M i) ≠ v) := by
  rcases h with ⟨-, i, q1, q2⟩ | ⟨rfl, q⟩
  · exact Or.inl ⟨rfl, i, by omega, q2⟩
  · omega
theorem there_b {M : Nat → Nat} {v : Int32} {b g : Nat} (hg : 1 ≤ g) (h : (b = 1 ∧ ∃ i, i + 1 < g ∧ nI (mP M i) = v) ∨ (b = 0 ∧ ∀ i, i + 1 < g → nI (mP M i) ≠ v)) (hb : b = 0) (c : nI (M (9 + 3 * (g - 1) + 0)) = v) : (1 = 1 ∧ ∃ i, i + 1 < g + 1 ∧ nI (mP M i) = v) ∨ (1 = 0 ∧ ∀ i, i + 1 < g + 1 → nI (mP M i) ≠ v) := Or.inl ⟨rfl, g - 1, by omega, c⟩
theorem there_c {M : Nat → Nat} {v : Int32} {b g : Nat} (hg : 1 ≤ g) (h : (b = 1 ∧ ∃ i, i + 1 < g ∧ nI (mP M i) = v) ∨ (b = 0 ∧ ∀ i, i + 1 < g → nI (mP M i) ≠ v)) (hb : b = 0) (c : ¬ nI (M (9 + 3 * (g - 1) + 0)) = v) : (0 = 1 ∧ ∃ i, i + 1 < g + 1 ∧ nI (mP M i) = v) ∨ (0 = 0 ∧ ∀ i, i + 1 < g + 1 → nI (mP M i) ≠ v) := by
  rcases h with ⟨rfl, -⟩ | ⟨-, q⟩
  · omega
  · refine Or.inr ⟨rfl, fun i hi => ?_⟩
    rcases Nat.lt_or_ge (i + 1) g with z | z
    · exact q i z
    · obtain rfl : i = g - 1 := by omega
      exact c
theorem am_at {M : Nat → Nat} {s n : Nat} (h : ∀ i, i < 48 → mAm M i ≤ 1000000) (hs : s < 4) (h1 : 1 ≤ n) (h2 : n ≤ 12) : M (61 + 12 * s + n - 1) ≤ 1000000 := by
  have := h (12 * s + (n - 1)) (by omega)
  unfold mAm at this
  rwa [show 61 + (12 * s + (n - 1)) = 61 + 12 * s + n - 1 by omega] at this
theorem am_ix {M : Nat → Nat} {s k : Nat} : mAm M (s * 12 + k) = M (61 + 12 * s + (k + 1) - 1) := by
  unfold mAm
  congr 1
  omega
theorem mh_t {M : Nat → Nat} {s g : Nat} (hg : 1 ≤ g) (c : 0 < M (61 + 12 * s + g - 1) ∧ M 8 ≤ M (61 + 12 * s + g - 1)) : mhL (mAm M) (M 8) s (g + 1 - 1) = mhL (mAm M) (M 8) s (g - 1) ||| 2 ^ (g - 1) := by
  obtain ⟨k, rfl⟩ : ∃ k, g = k + 1 := ⟨g - 1, by omega⟩
  rw [Nat.add_sub_cancel, Nat.add_sub_cancel]
  simp only [mhL]
  rw [am_ix, if_pos c]
theorem mh_f {M : Nat → Nat} {s g : Nat} (hg : 1 ≤ g) (c : ¬ (0 < M (61 + 12 * s + g - 1) ∧ M 8 ≤ M (61 + 12 * s + g - 1))) : mhL (mAm M) (M 8) s (g + 1 - 1) = mhL (mAm M) (M 8) s (g - 1) := by
  obtain ⟨k, rfl⟩ : ∃ k, g = k + 1 := ⟨g - 1, by omega⟩
  rw [Nat.add_sub_cancel, Nat.add_sub_cancel]
  conv => lhs; simp only [mhL]
  rw [am_ix, if_neg c]
theorem sum_t {M : Nat → Nat} {s g : Nat} (hg : 1 ≤ g) : sumA (mAm M) s (g + 1 - 1) = sumA (mAm M) s (g - 1) + M (61 + 12 * s + g - 1) := by
  obtain ⟨k, rfl⟩ : ∃ k, g = k + 1 := ⟨g - 1, by omega⟩
  rw [Nat.add_sub_cancel, Nat.add_sub_cancel]
  simp only [sumA]
  rw [am_ix]
theorem rcP_e {Pa M Pb : Nat → Nat} {pz zz : Nat} (h : (pz = 4 ∧ zz = 3 ∧ Pb = rcA Pa 795) ∨ (pz ≠ 4 ∧ zz = pz ∧ Pb = Pa)) : rcB Pb M (265 * zz) 265 = rcP Pa M pz := by
  unfold rcP
  rcases h with ⟨h1, rfl, rfl⟩ | ⟨h1, rfl, rfl⟩
  · rw [if_pos h1]
  · rw [if_neg h1]
theorem rcS_e {Pa Pb : Nat → Nat} {pz zz : Nat} (h : (pz = 4 ∧ zz = 3 ∧ Pb = rcA Pa 795) ∨ (pz ≠ 4 ∧ zz = pz ∧ Pb = Pa)) : zz + 1 = rcS pz := by
  unfold rcS
  rcases h with ⟨h1, rfl, -⟩ | ⟨h1, rfl, -⟩
  · rw [if_pos h1]
  · rw [if_neg h1]
