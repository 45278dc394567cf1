/-! ===== what the neck says, as numbers ===== -/
/-- the line from a fret of height h at p to the bridge, at x -/
def lineZ (h p x : Nat) : Int := h + ((1500 - (h : Int)) * ((x : Int) - p)) / (2520 - p)
def atN (P : Nat → Nat) (f : Nat) : Nat := if f = 0 then 0 else P (f - 1)
/-- behind k frets looked at: the fret that is most in the way, and by how much -/
def srcL (P Hh : Nat → Nat) (f0 : Nat) : Nat → Nat × Nat
  | 0 => (f0, 0)
  | k + 1 => if ((srcL P Hh f0 k).2 : Int) < Hh (f0 + k) - lineZ (Hh (f0 - 1)) (P (f0 - 1)) (P (f0 + k)) then (f0 + k + 1, ((Hh (f0 + k) : Int) - lineZ (Hh (f0 - 1)) (P (f0 - 1)) (P (f0 + k))).toNat) else srcL P Hh f0 k
def srcN (P Hh : Nat → Nat) (n f : Nat) : Nat := if f = 0 then 0 else (srcL P Hh f (n - f)).1
theorem srcL_le (P Hh : Nat → Nat) (f0 k : Nat) : (srcL P Hh f0 k).1 ≤ f0 + k := by
  induction k with
  | zero => simp [srcL]
  | succ k ih =>
    simp only [srcL]
    split
    · simp; omega
    · omega
theorem srcL_ge (P Hh : Nat → Nat) (f0 k : Nat) : f0 ≤ (srcL P Hh f0 k).1 := by
  induction k with
  | zero => simp [srcL]
  | succ k ih =>
    simp only [srcL]
    split
    · simp; omega
    · omega
theorem srcN_le (P Hh : Nat → Nat) {n f : Nat} (h : f ≤ n) : srcN P Hh n f ≤ n := by
  unfold srcN
  split
  · omega
  · have := srcL_le P Hh f (n - f); omega
theorem iZ_toInt {z : Int} (h1 : -2147483648 ≤ z) (h2 : z < 2147483648) : (Int32.ofInt z).toInt = z := Int32.toInt_ofInt_of_le (by omega) (by omega)
theorem iZ_nat (n : Nat) : Int32.ofInt (n : Int) = nI n := Int32.ofInt_eq_ofNat
/-- a product of two bounded ints is bounded -/
theorem z_mulB {a b A B : Int} (h1 : -A ≤ a) (h2 : a ≤ A) (h3 : -B ≤ b) (h4 : b ≤ B) : -(A * B) ≤ a * b ∧ a * b ≤ A * B := by
  have hA : 0 ≤ A := by omega
  have hB : 0 ≤ B := by omega
  rcases Int.le_total 0 a with ha | ha <;> rcases Int.le_total 0 b with hb | hb
  · have := Int.mul_le_mul h2 h4 hb hA; have := Int.mul_nonneg ha hb; have := Int.mul_nonneg hA hB; omega
  · have e : a * b = -(a * -b) := by rw [Int.mul_neg, Int.neg_neg]
    have := Int.mul_le_mul h2 (show -b ≤ B by omega) (by omega) hA; have := Int.mul_nonneg ha (show 0 ≤ -b by omega); have := Int.mul_nonneg hA hB; omega
  · have e : a * b = -(-a * b) := by rw [Int.neg_mul, Int.neg_neg]
    have := Int.mul_le_mul (show -a ≤ A by omega) h4 hb hA; have := Int.mul_nonneg (show 0 ≤ -a by omega) hb; have := Int.mul_nonneg hA hB; omega
  · have e : a * b = -a * -b := by rw [Int.neg_mul_neg]
    have := Int.mul_le_mul (show -a ≤ A by omega) (show -b ≤ B by omega) (by omega) hA; have := Int.mul_nonneg (show 0 ≤ -a by omega) (show 0 ≤ -b by omega); have := Int.mul_nonneg hA hB; omega
theorem line_mul {h p x : Nat} (hh : h ≤ 2000) (hp : p ≤ 2400) (hx : x ≤ 2520) : -5040000 ≤ (1500 - (h : Int)) * ((x : Int) - p) ∧ (1500 - (h : Int)) * ((x : Int) - p) ≤ 5040000 := by
  have := z_mulB (a := 1500 - (h : Int)) (b := (x : Int) - p) (A := 2000) (B := 2520) (by omega) (by omega) (by omega) (by omega)
  omega
theorem z_divB {a b : Int} (hb : 0 < b) {M : Int} (h1 : -M ≤ a) (h2 : a ≤ M) : -M ≤ a / b ∧ a / b ≤ M := by
  have hM : 0 ≤ M := by omega
  constructor
  · apply (Int.le_ediv_iff_mul_le hb).mpr
    have : M * 1 ≤ M * b := Int.mul_le_mul_of_nonneg_left (by omega) hM
    rw [Int.neg_mul]; omega
  · apply Int.ediv_le_of_le_mul hb
    have : M * 1 ≤ M * b := Int.mul_le_mul_of_nonneg_left (by omega) hM
    omega
theorem line_bound {h p x : Nat} (hh : h ≤ 2000) (hp : p ≤ 2400) (hx : x ≤ 2520) : -5040000 ≤ lineZ h p x ∧ lineZ h p x ≤ 5042000 := by
  obtain ⟨h1, h2⟩ := line_mul hh hp hx
  obtain ⟨h3, h4⟩ := z_divB (b := 2520 - (p : Int)) (by omega) h1 h2
  unfold lineZ
  omega
theorem atN_pos {P : Nat → Nat} {f : Nat} (h : 1 ≤ f) : atN P f = P (f - 1) := by unfold atN; rw [if_neg (by omega)]
theorem atN_le {P : Nat → Nat} {f n B : Nat} (hP : ∀ i, i < n → P i ≤ B) (h : f ≤ n) : atN P f ≤ B := by
  unfold atN
  split
  · omega
  · exact hP _ (by omega)
-- division rounded down, as the JDK's code has it
theorem fdiv_q {a b : Int32} (hb : 0 < b.toInt) : (a / b).toInt = a.toInt.tdiv b.toInt := Int32.toInt_div_of_ne_right a b (by rintro rfl; exact absurd hb (by decide))
theorem xor_neg {a b : Int32} (hb : 0 < b.toInt) : a ^^^ b < 0 ↔ a.toInt < 0 := by
  rw [Int32.lt_iff_toInt_lt]
  show (a.toBitVec ^^^ b.toBitVec).toInt < 0 ↔ a.toBitVec.toInt < 0
  have h1 := BitVec.msb_eq_toInt (x := a.toBitVec ^^^ b.toBitVec)
  have h2 := BitVec.msb_eq_toInt (x := a.toBitVec)
  have h3 := BitVec.msb_eq_toInt (x := b.toBitVec)
  rw [BitVec.msb_xor, h2, h3] at h1
  have h4 : ¬ b.toBitVec.toInt < 0 := by
    have : b.toBitVec.toInt = b.toInt := rfl
    omega
  rw [decide_eq_false h4, Bool.xor_false] at h1
  by_cases q : a.toBitVec.toInt < 0
  · rw [decide_eq_true q] at h1
    exact ⟨fun _ => q, fun _ => of_decide_eq_true h1.symm⟩
  · rw [decide_eq_false q] at h1
    exact ⟨fun h => absurd h (of_decide_eq_false h1.symm), fun h => absurd h q⟩
theorem tdiv_B (a b : Int) (hb : 0 < b) : a.tdiv b = a / b + if 0 ≤ a ∨ b ∣ a then 0 else 1 := by
  rw [Int.tdiv_eq_ediv, Int.sign_eq_one_of_pos hb]
theorem fdiv_pos {a b : Int32} (hb : 0 < b.toInt) (h : ¬ a ^^^ b < 0) : a / b = Int32.ofInt (a.toInt / b.toInt) := by
  rw [xor_neg hb] at h
  rw [← Int32.ofInt_toInt (a / b), fdiv_q hb, tdiv_B _ _ hb, if_pos (Or.inl (by omega)), Int.add_zero]
theorem tmul_in {a b : Int32} (hb : 0 < b.toInt) : (a / b * b).toInt = a.toInt.tdiv b.toInt * b.toInt := by
  rw [Int32.toInt_mul, fdiv_q hb]
  have h1 := a.toInt_lt
  have h2 := a.le_toInt
  have h4 := Int.tdiv_mul_self a.toInt b.toInt
  apply Int.bmod_eq_of_le
  · rcases Int.le_total 0 a.toInt with h | h
    · have h5 := Int.mul_nonneg (Int.tdiv_nonneg h (Int.le_of_lt hb)) (Int.le_of_lt hb)
      omega
    · have h6 := Int.tmod_nonneg b.toInt (show 0 ≤ -a.toInt by omega)
      rw [Int.neg_tmod] at h6
      omega
  · rcases Int.le_total 0 a.toInt with h | h
    · have h6 := Int.tmod_nonneg b.toInt h
      omega
    · have h5 := Int.mul_nonneg (Int.tdiv_nonneg (show 0 ≤ -a.toInt by omega) (Int.le_of_lt hb)) (Int.le_of_lt hb)
      rw [Int.neg_tdiv, Int.neg_mul] at h5
      omega
theorem fdiv_eq {a b : Int32} (hb : 0 < b.toInt) (h : a / b * b = a) : a / b = Int32.ofInt (a.toInt / b.toInt) := by
  have h1 := congrArg Int32.toInt h
  rw [tmul_in hb] at h1
  rw [← Int32.ofInt_toInt (a / b), fdiv_q hb, tdiv_B _ _ hb, if_pos (Or.inr ⟨a.toInt.tdiv b.toInt, by rw [Int.mul_comm]; exact h1.symm⟩), Int.add_zero]
theorem fdiv_ne {a b : Int32} (hb : 0 < b.toInt) (h : a ^^^ b < 0) (hne : ¬ a / b * b = a) : a / b - nI 1 = Int32.ofInt (a.toInt / b.toInt) := by
  rw [xor_neg hb] at h
  have h2 : ¬ b.toInt ∣ a.toInt := fun ⟨k, hk⟩ => hne (Int32.toInt_inj.mp (by
    rw [tmul_in hb]
    have : a.toInt.tdiv b.toInt = k := by rw [hk, Int.mul_tdiv_cancel_left _ (by omega)]
    rw [this, hk, Int.mul_comm]))
  rw [← Int32.ofInt_toInt (a / b), fdiv_q hb, tdiv_B _ _ hb, if_neg (by omega), ← iZ_nat, ← Int32.ofInt_sub]
  congr 1
  omega
theorem line_eq {h p x : Nat} (hh : h ≤ 2000) (hp : p ≤ 2400) (hx : x ≤ 2520) : nI h + Int32.ofInt (((nI 1500 - nI h) * (nI x - nI p)).toInt / (nI (2520 - p)).toInt) = Int32.ofInt (lineZ h p x) := by
  obtain ⟨h1, h2⟩ := line_mul hh hp hx
  have e1 : (nI 1500 - nI h) * (nI x - nI p) = Int32.ofInt ((1500 - (h : Int)) * ((x : Int) - p)) := by
    rw [Int32.ofInt_mul, Int32.ofInt_sub, Int32.ofInt_sub, iZ_nat, iZ_nat, iZ_nat, show (1500 : Int) = ((1500 : Nat) : Int) from rfl, iZ_nat]
  rw [e1, iZ_toInt (by omega) (by omega), nI_toInt (by omega), ← iZ_nat, ← Int32.ofInt_add]
  unfold lineZ
  rw [show ((2520 - p : Nat) : Int) = 2520 - (p : Int) by omega]
theorem way_toInt {h : Nat} {z : Int} (hh : h ≤ 2000) (h1 : -5040000 ≤ z) (h2 : z ≤ 5042000) : (nI h - Int32.ofInt z).toInt = (h : Int) - z := by
  rw [← iZ_nat, ← Int32.ofInt_sub, iZ_toInt (by omega) (by omega)]
theorem srcL_b {P Hh : Nat → Nat} (hP : ∀ i, i < 12 → P i ≤ 2400) (hH : ∀ i, i < 12 → Hh i ≤ 2000) (f0 : Nat) (h0 : 1 ≤ f0) : ∀ k, f0 + k ≤ 12 → (srcL P Hh f0 k).2 ≤ 5042000
  | 0, _ => by simp [srcL]
  | k + 1, h => by
    have ih := srcL_b hP hH f0 h0 k (by omega)
    have hb := line_bound (hH (f0 - 1) (by omega)) (hP (f0 - 1) (by omega)) (show P (f0 + k) ≤ 2520 from Nat.le_trans (hP _ (by omega)) (by omega))
    have hz := hH (f0 + k) (by omega)
    simp only [srcL]
    split
    · show Int.toNat _ ≤ _
      omega
    · exact ih
theorem src_t {P Hh : Nat → Nat} {f g : Nat} {x : Int32} (hP : ∀ i, i < 12 → P i ≤ 2400) (hH : ∀ i, i < 12 → Hh i ≤ 2000) (h1 : 1 ≤ f) (hg : f + 1 ≤ g) (hg2 : g ≤ 12) (ex : x = nI (atN Hh g) - Int32.ofInt (lineZ (atN Hh f) (atN P f) (atN P g))) (c : x ≤ nI (srcL P Hh f (g - f - 1)).2) : srcL P Hh f (g + 1 - f - 1) = srcL P Hh f (g - f - 1) := by
  rw [atN_pos (by omega), atN_pos (by omega), atN_pos (by omega), atN_pos (by omega)] at ex
  have hb := line_bound (hH (f - 1) (by omega)) (hP (f - 1) (by omega)) (show P (g - 1) ≤ 2520 from Nat.le_trans (hP _ (by omega)) (by omega))
  have hs := srcL_b hP hH f h1 (g - f - 1) (by omega)
  rw [Int32.le_iff_toInt_le, ex, way_toInt (hH _ (by omega)) hb.1 hb.2, nI_toInt (by omega)] at c
  obtain ⟨k, rfl⟩ : ∃ k, g = f + 1 + k := ⟨g - f - 1, by omega⟩
  rw [show f + 1 + k + 1 - f - 1 = k + 1 by omega, show f + 1 + k - f - 1 = k by omega] at *
  rw [show f + 1 + k - 1 = f + k by omega] at c
  simp only [srcL]
  rw [if_neg (by omega)]
theorem src_f {P Hh : Nat → Nat} {f g : Nat} {x : Int32} (hP : ∀ i, i < 12 → P i ≤ 2400) (hH : ∀ i, i < 12 → Hh i ≤ 2000) (h1 : 1 ≤ f) (hg : f + 1 ≤ g) (hg2 : g ≤ 12) (ex : x = nI (atN Hh g) - Int32.ofInt (lineZ (atN Hh f) (atN P f) (atN P g))) (c : ¬ x ≤ nI (srcL P Hh f (g - f - 1)).2) : (srcL P Hh f (g + 1 - f - 1)).1 = g ∧ x = nI (srcL P Hh f (g + 1 - f - 1)).2 := by
  rw [atN_pos (by omega), atN_pos (by omega), atN_pos (by omega), atN_pos (by omega)] at ex
  have hb := line_bound (hH (f - 1) (by omega)) (hP (f - 1) (by omega)) (show P (g - 1) ≤ 2520 from Nat.le_trans (hP _ (by omega)) (by omega))
  have hs := srcL_b hP hH f h1 (g - f - 1) (by omega)
  have hz := hH (g - 1) (by omega)
  rw [Int32.le_iff_toInt_le, ex, way_toInt hz hb.1 hb.2, nI_toInt (by omega)] at c
  have ex2 : x.toInt = (Hh (g - 1) : Int) - lineZ (Hh (f - 1)) (P (f - 1)) (P (g - 1)) := by rw [ex, way_toInt hz hb.1 hb.2]
  obtain ⟨k, rfl⟩ : ∃ k, g = f + 1 + k := ⟨g - f - 1, by omega⟩
  rw [show f + 1 + k + 1 - f - 1 = k + 1 by omega]
  rw [show f + 1 + k - f - 1 = k by omega] at c hs
  rw [show f + 1 + k - 1 = f + k by omega] at *
  simp only [srcL]
  rw [if_pos (by omega)]
  refine ⟨by omega, ?_⟩
  apply Int32.toInt_inj.mp
  rw [ex2, nI_toInt]
  · omega
  · show Int.toNat _ < _
    omega
/-- the least of the lines of the first k frets at x, and 2000 -/
def mstL (P Hh : Nat → Nat) (x : Nat) : Nat → Int
  | 0 => 2000
  | k + 1 => if lineZ (Hh k) (P k) x < mstL P Hh x k then lineZ (Hh k) (P k) x else mstL P Hh x k
theorem mstL_b {P Hh : Nat → Nat} (hP : ∀ i, i < 12 → P i ≤ 2400) (hH : ∀ i, i < 12 → Hh i ≤ 2000) {x : Nat} (hx : x ≤ 2520) : ∀ k, k ≤ 12 → -5040000 ≤ mstL P Hh x k ∧ mstL P Hh x k ≤ 2000
  | 0, _ => by simp [mstL]
  | k + 1, h => by
    have ih := mstL_b hP hH hx k (by omega)
    have hb := line_bound (hH k (by omega)) (hP k (by omega)) hx
    simp only [mstL]
    split <;> omega
theorem mst_s {P Hh : Nat → Nat} (hP : ∀ i, i < 12 → P i ≤ 2400) (hH : ∀ i, i < 12 → Hh i ≤ 2000) {f g : Nat} {y : Int32} (hf : f ≤ 12) (hg : 1 ≤ g) (hg2 : g ≤ 12) (ey : y = if Int32.ofInt (lineZ (atN Hh g) (atN P g) (atN P f)) < Int32.ofInt (mstL P Hh (atN P f) (g - 1)) then Int32.ofInt (lineZ (atN Hh g) (atN P g) (atN P f)) else Int32.ofInt (mstL P Hh (atN P f) (g - 1))) : y = Int32.ofInt (mstL P Hh (atN P f) (g + 1 - 1)) := by
  have hx : atN P f ≤ 2520 := Nat.le_trans (atN_le hP hf) (by omega)
  obtain ⟨k, rfl⟩ : ∃ k, g = k + 1 := ⟨g - 1, by omega⟩
  rw [atN_pos (f := k + 1) (by omega), atN_pos (f := k + 1) (by omega), Nat.add_sub_cancel] at ey
  have hb := line_bound (hH k (by omega)) (hP k (by omega)) hx
  have hm := mstL_b hP hH hx k (by omega)
  have hlt : Int32.ofInt (lineZ (Hh k) (P k) (atN P f)) < Int32.ofInt (mstL P Hh (atN P f) k) ↔ lineZ (Hh k) (P k) (atN P f) < mstL P Hh (atN P f) k := by
    rw [Int32.lt_iff_toInt_lt, iZ_toInt (by omega) (by omega), iZ_toInt (by omega) (by omega)]
  rw [ey, show k + 1 + 1 - 1 = k + 1 by omega]
  simp only [mstL, hlt]
  split <;> rfl
theorem mst_e {z : Int} (h1 : -5040000 ≤ z) (h2 : z ≤ 2000) : (if nI 0 < Int32.ofInt z then Int32.ofInt z else nI 0) = Int32.ofInt (max 0 z) := by
  have hlt : nI 0 < Int32.ofInt z ↔ 0 < z := by
    rw [Int32.lt_iff_toInt_lt, iZ_toInt (by omega) (by omega), nI_toInt (by omega)]
    rfl
  simp only [hlt]
  split
  · rw [Int.max_eq_right (by omega)]
  · rw [Int.max_eq_left (by omega)]; rfl
-- a fret set in: where, and what the rows hold then
def insI (P : Nat → Nat) (x : Nat) : Nat → Nat
  | 0 => 0
  | i + 1 => if x < P i then insI P x i else i + 1
def shf (P : Nat → Nat) (n i : Nat) : Nat → Nat := fun t => if i < t ∧ t ≤ n then P (t - 1) else P t
theorem shf_n (P : Nat → Nat) (n : Nat) : shf P n n = P := by funext t; simp only [shf]; rw [if_neg (by omega)]
theorem shf_s (P : Nat → Nat) {n i : Nat} (hi : 1 ≤ i) (hn : i ≤ n) : va_up (shf P n i) i (shf P n i (i - 1)) = shf P n (i - 1) := by
  funext t
  simp only [shf, va_up]
  split
  · subst t
    rw [if_neg (by omega), if_pos (by omega)]
  · by_cases h : i < t ∧ t ≤ n
    · rw [if_pos h, if_pos (by omega)]
    · rw [if_neg h, if_neg (by omega)]
theorem shf_p (P : Nat → Nat) {n i : Nat} : shf P n i (i - 1) = P (i - 1) := by simp only [shf]; rw [if_neg (by omega)]
theorem insI_le (P : Nat → Nat) (x n : Nat) : insI P x n ≤ n := by
  induction n with
  | zero => simp [insI]
  | succ n ih =>
    simp only [insI]
    split <;> omega
theorem va_up_up {f : Nat → Nat} {k v w : Nat} : va_up (va_up f k v) k w = va_up f k w := by
  funext t
  simp only [va_up]
  split <;> rfl
theorem va_up_at {f : Nat → Nat} {k v : Nat} : va_up f k v k = v := by simp [va_up]
theorem taken_s {P : Nat → Nat} {j : Nat} {x : Int32} (h0 : 1 ≤ j) (h : ∀ i, i + 1 < j → nI (P i) ≠ x) (c : ¬ nI (atN P j) = x) : ∀ i, i + 1 < j + 1 → nI (P i) ≠ x := by
  intro i hi
  rcases Nat.lt_or_ge (i + 1) j with q | q
  · exact h i q
  · obtain rfl : i = j - 1 := by omega
    rw [atN_pos h0] at c
    exact c
theorem ins_b {P : Nat → Nat} {n i x : Nat} (hi : 0 < i) (c : x < shf P n i (i - 1)) : insI P x i = insI P x (i - 1) := by
  rw [shf_p] at c
  obtain ⟨k, rfl⟩ : ∃ k, i = k + 1 := ⟨i - 1, by omega⟩
  rw [Nat.add_sub_cancel] at *
  simp only [insI]
  rw [if_pos c]
theorem ins_e {P : Nat → Nat} {n i x : Nat} (hi : 0 < i) (c : shf P n i (i - 1) ≤ x) : insI P x i = i := by
  rw [shf_p] at c
  obtain ⟨k, rfl⟩ : ∃ k, i = k + 1 := ⟨i - 1, by omega⟩
  rw [Nat.add_sub_cancel] at *
  simp only [insI]
  rw [if_neg (by omega)]
def insA (P : Nat → Nat) (n k v : Nat) : Nat → Nat := va_up (shf P n k) k v
-- a fret worn
def wlost (Hh Wr : Nat → Nat) (f q per : Nat) : Nat := if f = 0 then 0 else min (Hh (f - 1)) ((Wr (f - 1) + q) / per)
def wH (Hh Wr : Nat → Nat) (f q per : Nat) : Nat → Nat := if f = 0 then Hh else va_up Hh (f - 1) (Hh (f - 1) - wlost Hh Wr f q per)
def wW (Hh Wr : Nat → Nat) (f q per : Nat) : Nat → Nat := if f = 0 then Wr else va_up Wr (f - 1) (Wr (f - 1) + q - wlost Hh Wr f q per * per)
theorem wl_le {a b per : Nat} : max 0 (min a (b / per)) * per ≤ b := by
  rw [Nat.zero_max]
  exact Nat.le_trans (Nat.mul_le_mul_right _ (Nat.min_le_right _ _)) (Nat.div_mul_le_self _ _)
