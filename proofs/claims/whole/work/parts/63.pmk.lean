theorem pm_k {α : Type} (f n h a b c d : List α) : (f ++ (n ++ (h ++ (a ++ (b ++ (c ++ d)))))).Perm ((h ++ (a ++ (b ++ (c ++ (d ++ n))))) ++ f) := by
  classical
  rw [List.perm_iff_count]
  intro q
  simp only [List.count_append]
  omega
theorem lvx_t {a b : Nat} {x : Int32} (ha : a < 2147483648) (hb : b < 2147483648) (e : x = nI a - nI b) (h : nI 0 ≤ x) : b ≤ a ∧ x = nI (a - b) := by
  subst e
  rw [Int32.le_iff_toInt_le, na_lt ha hb, nI_toInt (by omega)] at h
  exact ⟨by omega, pk_sub (by omega)⟩
theorem lvx_f {a b : Nat} {x : Int32} (ha : a < 2147483648) (hb : b < 2147483648) (e : x = nI a - nI b) (h : ¬ nI 0 ≤ x) : a < b := by
  subst e
  rw [Int32.le_iff_toInt_le, na_lt ha hb, nI_toInt (by omega)] at h
  omega
