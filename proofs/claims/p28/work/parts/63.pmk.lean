theorem pm_k {α : Type} (f n h a b c d : List α) : (f ++ (n ++ (h ++ (a ++ (b ++ (c ++ d)))))).Perm ((h ++ (a ++ (b ++ (c ++ (d ++ n))))) ++ f) := by
  classical
  rw [List.perm_iff_count]
  intro q
  simp only [List.count_append]
  omega
theorem lvx_t {a b : Nat} {x : Int32} (ha : a < 2147483648) (hb : b < 2147483648) (e : x = nI a - nI b) (h : nI 0 ≤ x) : b ≤ a ∧ x = nI (a - b) := by
  subst e
  rw [Int32.le_iff_toInt_le, na_lt ha hb, nI_toInt (by omega)] at h
  exact ⟨by omega, pk_sub (by omega)⟩
theorem lvx_f {a b : Nat} {x : Int32} (ha : a < 2147483648) (hb : b < 2147483648) (e : x = nI a - nI b) (h : ¬ nI 0 ≤ x) : a < b := by
  subst e
  rw [Int32.le_iff_toInt_le, na_lt ha hb, nI_toInt (by omega)] at h
  omega
theorem lgL_b {Fi St Se Am : Nat → Nat} {k c : Nat} (h : ∀ i, i < 48 → Am i ≤ 1000000) : ∀ i, i < 48 → lgL Fi St Se Am k c i ≤ 1000000 := by
  intro i hi
  simp only [lgL]
  split
  · unfold lgV; exact Nat.le_trans (fadeN_le _) (h i hi)
  · exact h i hi
theorem wkL_b {Am : Nat → Nat} {s y ln q k : Nat} (h : ∀ i, i < 48 → Am i ≤ 1000000) : ∀ i, i < 48 → wakeL Am s y ln q k i ≤ 1000000 := by
  intro i hi
  simp only [wakeL]
  split
  · exact Nat.min_le_left _ _
  · exact h i hi
theorem amL_b {P Hh Pr St Am : Nat → Nat} {n g : Nat} (h : ∀ i, i < 48 → Am i ≤ 1000000) : ∀ i, i < 48 → amL P Hh n Pr St Am g i ≤ 1000000 := by
  intro i hi
  simp only [amL]
  split
  · exact Nat.zero_le _
  · exact h i hi
