/-! ===== the reference's calls, II ===== -/
/-- which settings may be put -/
def stO (k w : Nat) : Prop := ((k = 0 ∨ k = 2) ∧ w ≤ 1000) ∨ (k = 1 ∧ w ≤ 100) ∨ (k = 3 ∧ 1 ≤ w ∧ w ≤ 1000000) ∨ (k = 4 ∧ w ≤ 100000)
def canP (a v : Int32) : Prop := ((a = nI 0 ∨ a = nI 2) ∧ nI 0 ≤ v ∧ v ≤ nI 1000) ∨ (a = nI 1 ∧ nI 0 ≤ v ∧ v ≤ nI 100) ∨ (a = nI 3 ∧ nI 1 ≤ v ∧ v ≤ nI 1000000) ∨ (a = nI 4 ∧ nI 0 ≤ v ∧ v ≤ nI 100000)
theorem can_n {a v : Int32} (h : canP a v) : ∃ k w, a = nI k ∧ v = nI w ∧ k < 5 ∧ stO k w := by
  rcases h with ⟨h1 | h1, h2, h3⟩ | ⟨h1, h2, h3⟩ | ⟨h1, h2, h3⟩ | ⟨h1, h2, h3⟩
  · obtain ⟨w, -, q, rfl⟩ := z_ge (by omega) (by omega) h2 h3
    exact ⟨0, w, h1, rfl, by omega, Or.inl ⟨Or.inl rfl, q⟩⟩
  · obtain ⟨w, -, q, rfl⟩ := z_ge (by omega) (by omega) h2 h3
    exact ⟨2, w, h1, rfl, by omega, Or.inl ⟨Or.inr rfl, q⟩⟩
  · obtain ⟨w, -, q, rfl⟩ := z_ge (by omega) (by omega) h2 h3
    exact ⟨1, w, h1, rfl, by omega, Or.inr (Or.inl ⟨rfl, q⟩)⟩
  · obtain ⟨w, q1, q, rfl⟩ := z_ge (by omega) (by omega) h2 h3
    exact ⟨3, w, h1, rfl, by omega, Or.inr (Or.inr (Or.inl ⟨rfl, q1, q⟩))⟩
  · obtain ⟨w, -, q, rfl⟩ := z_ge (by omega) (by omega) h2 h3
    exact ⟨4, w, h1, rfl, by omega, Or.inr (Or.inr (Or.inr ⟨rfl, q⟩))⟩
theorem na_lt {a b : Nat} (ha : a < 2147483648) (hb : b < 2147483648) : (nI a - nI b).toInt = (a : Int) - b := by
  rw [Int32.toInt_sub, nI_toInt (by omega), nI_toInt (by omega)]
  apply Int.bmod_eq_of_le <;> omega
theorem na_t {a b : Nat} {x : Int32} (ha : a < 2147483648) (hb : b < 2147483648) (e : x = nI a - nI b) (h : nI 0 < x) : b < a ∧ x = nI (a - b) := by
  subst e
  rw [Int32.lt_iff_toInt_lt, na_lt ha hb, nI_toInt (by omega)] at h
  exact ⟨by omega, pk_sub (by omega)⟩
theorem na_f {a b : Nat} {x : Int32} (ha : a < 2147483648) (hb : b < 2147483648) (e : x = nI a - nI b) (h : ¬ nI 0 < x) : a ≤ b := by
  subst e
  rw [Int32.lt_iff_toInt_lt, na_lt ha hb, nI_toInt (by omega)] at h
  omega
theorem z_lt0 {x : Int32} {b : Nat} (hb : b < 2147483648) (h1 : ¬ x < nI 0) (h2 : ¬ nI b ≤ x) : ∃ k, k < b ∧ x = nI k := by
  rw [Int32.lt_iff_toInt_lt, nI_toInt (by omega)] at h1
  rw [Int32.le_iff_toInt_le, nI_toInt (by omega)] at h2
  refine ⟨x.toInt.toNat, by omega, Int32.toInt_inj.mp ?_⟩
  rw [nI_toInt (by omega)]
  omega
/-- what fretInfo says -/
def fiA (M : Nat → Nat) (f w : Nat) : Int32 := if w < 3 then nI (M (9 + 3 * (f - 1) + w)) else if w < 5 then nI (msL M f (if w = 4 then 1 else 0) 4) else nI (srcN (mP M) (mH M) (M 0) f)
/-- what stringInfo says -/
def siA (M : Nat → Nat) (s w : Nat) : Int32 := if w < 2 then nI (M (45 + 4 * s + w)) else if w = 2 then nI (mSo M s) else if w = 3 then (if mSo M s ≠ mPr M s then nI 1 else nI 0) else if w = 4 then nI (2520 - mSt M s) else if w = 5 then nI (M (45 + 4 * s + 2)) else if w = 6 then nI (mhL (mAm M) (M 8) s 12) else if w = 7 then nI (sumA (mAm M) s 12) else nI (M (45 + 4 * s + 3))
/-- what modeInfo says -/
def miA (M : Nat → Nat) (s n w : Nat) : Int32 := if w = 0 then nI (M (61 + 12 * s + n - 1)) else if w = 1 then nI (pitch (mT M) (mSt M) s n) else nI (cnL n (2520 - mSt M s) (2519 - mSt M s))
theorem gn_am {M : Nat → Nat} {k v : Nat} (h : ∀ i, i < 48 → mAm M i ≤ 1000000) : ∀ i, i < 48 → mAm (va_up (gnL M k 48) 1 v) i ≤ 1000000 := by
  intro i hi
  unfold mAm
  simp only [va_up, gnL]
  rw [if_neg (by omega), if_pos (by omega)]
  unfold gnV
  exact Nat.le_trans (fadeN_le _) (h i hi)
/-- the sum over the first strings of their plucks, or of those that buzz -/
def osL (M : Nat → Nat) (w : Nat) : Nat → Nat
  | 0 => 0
  | g + 1 => osL M w g + (if w = 5 then M (45 + 4 * g + 3) else if mSo M g ≠ mPr M g then 1 else 0)
theorem os_b {M : Nat → Nat} {w B : Nat} (h : ∀ i, i < 4 → mPl M i ≤ B) (hB : 1 ≤ B) : ∀ g, g ≤ 4 → osL M w g ≤ g * B
  | 0, _ => by simp [osL]
  | g + 1, hg => by
    have ih := os_b (w := w) h hB g (by omega)
    have h1 := h g (by omega)
    unfold mPl at h1
    simp only [osL]
    rw [Nat.add_mul, Nat.one_mul]
    split
    · omega
    · split <;> omega
theorem isL_0 {x : Int32} (h : x.toInt < 0 ∨ (13 : Int) < x.toInt) : ¬ (nI 0 ≤ x ∧ x ≤ nI 13) := by
  intro q
  obtain ⟨k, -, q1, rfl⟩ := z_ge (by omega) (by omega) q.1 q.2
  rw [nI_toInt (by omega)] at h
  omega
theorem isL_7 {x : Int32} (h : x.toInt < 0 ∨ (13 : Int) < x.toInt) : ¬ (nI 7 ≤ x ∧ x ≤ nI 11) := by
  intro q
  obtain ⟨k, -, q1, rfl⟩ := z_ge (by omega) (by omega) q.1 q.2
  rw [nI_toInt (by omega)] at h
  omega
theorem isL_8 {x : Int32} (h : x.toInt < 0 ∨ (7 : Int) < x.toInt) (q : nI 0 ≤ x ∧ x ≤ nI 8) : x = nI 8 := by
  obtain ⟨k, -, q1, rfl⟩ := z_ge (by omega) (by omega) q.1 q.2
  rw [nI_toInt (by omega)] at h
  rw [show k = 8 by omega]
