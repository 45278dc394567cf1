/-! ===== what the strings say, as numbers ===== -/
def sumA (Am : Nat → Nat) (s : Nat) : Nat → Nat
  | 0 => 0
  | k + 1 => sumA Am s k + Am (s * 12 + k)
def qzL (Am : Nat → Nat) (s k : Nat) : Nat → Nat := fun i => if s * 12 ≤ i ∧ i < s * 12 + k then 0 else Am i
theorem qzL_0 (Am : Nat → Nat) (s : Nat) : Am = qzL Am s 0 := by funext i; simp only [qzL]; rw [if_neg (by omega)]
theorem qzL_s (Am : Nat → Nat) {s g : Nat} (h : 1 ≤ g) : va_up (qzL Am s (g - 1)) (s * 12 + g - 1) 0 = qzL Am s (g + 1 - 1) := by
  funext i
  simp only [qzL, va_up]
  by_cases h1 : i = s * 12 + g - 1
  · rw [if_pos h1, if_pos (by omega)]
  · rw [if_neg h1]
    by_cases h2 : s * 12 ≤ i ∧ i < s * 12 + (g - 1)
    · rw [if_pos h2, if_pos (by omega)]
    · rw [if_neg h2, if_neg (by omega)]
def sfA (Am St : Nat → Nat) (s x : Nat) : Nat → Nat := if St s = x then Am else qzL Am s 12
def mrfL (Pr : Nat → Nat) (f k : Nat) : Nat → Nat := fun i => if i < k ∧ f ≤ Pr i then Pr i + 1 else Pr i
theorem mrfL_0 (Pr : Nat → Nat) (f : Nat) : Pr = mrfL Pr f 0 := by funext i; simp only [mrfL]; rw [if_neg (by omega)]
theorem mrfL_at (Pr : Nat → Nat) (f k : Nat) : mrfL Pr f k k = Pr k := by simp only [mrfL]; rw [if_neg (by omega)]
theorem mrfL_s (Pr : Nat → Nat) {f k : Nat} (c : f ≤ Pr k) : va_up (mrfL Pr f k) k (Pr k + 1) = mrfL Pr f (k + 1) := by
  funext i
  simp only [mrfL, va_up]
  by_cases h1 : i = k
  · subst h1; rw [if_pos rfl, if_pos ⟨by omega, c⟩]
  · rw [if_neg h1]
    by_cases h2 : i < k ∧ f ≤ Pr i
    · rw [if_pos h2, if_pos ⟨by omega, h2.2⟩]
    · rw [if_neg h2, if_neg (fun q => h2 ⟨by omega, q.2⟩)]
theorem mrfL_t (Pr : Nat → Nat) {f k : Nat} (c : Pr k < f) : mrfL Pr f k = mrfL Pr f (k + 1) := by
  funext i
  simp only [mrfL]
  by_cases h2 : i < k ∧ f ≤ Pr i
  · rw [if_pos h2, if_pos ⟨by omega, h2.2⟩]
  · rw [if_neg h2, if_neg (fun q => h2 (by
      rcases Nat.lt_or_ge i k with h | h
      · exact ⟨h, q.2⟩
      · obtain rfl : i = k := by omega
        exact absurd q.2 (by omega)))]
def maskL (row : Nat → Nat) (f : Nat) : Nat → Nat
  | 0 => 0
  | k + 1 => if row k = f then maskL row f k ||| 2 ^ k else maskL row f k
def bzL (So Pr : Nat → Nat) : Nat → Nat
  | 0 => 0
  | k + 1 => bzL So Pr k + (if So k ≠ Pr k then 1 else 0)
def sumP (Pl : Nat → Nat) : Nat → Nat
  | 0 => 0
  | k + 1 => sumP Pl k + Pl k
def dist (n y ln : Nat) : Nat := min (n * y % ln) (ln - n * y % ln)
def wakeV (Am : Nat → Nat) (s y ln q i : Nat) : Nat := min 1000000 (Am i + q * dist (i - s * 12 + 1) y ln * 1000 / (ln * (i - s * 12 + 1)))
def wakeL (Am : Nat → Nat) (s y ln q k : Nat) : Nat → Nat := fun i => if s * 12 ≤ i ∧ i < s * 12 + k then wakeV Am s y ln q i else Am i
theorem wakeL_0 (Am : Nat → Nat) (s y ln q : Nat) : Am = wakeL Am s y ln q 0 := by funext i; simp only [wakeL]; rw [if_neg (by omega)]
theorem wakeL_at (Am : Nat → Nat) {s y ln q g : Nat} (h : 1 ≤ g) : wakeL Am s y ln q (g - 1) (s * 12 + g - 1) = Am (s * 12 + g - 1) := by simp only [wakeL]; rw [if_neg (by omega)]
theorem wakeL_s (Am : Nat → Nat) {s y ln q g : Nat} (h : 1 ≤ g) : va_up (wakeL Am s y ln q (g - 1)) (s * 12 + g - 1) (min 1000000 (Am (s * 12 + g - 1) + q * dist g y ln * 1000 / (ln * g))) = wakeL Am s y ln q (g + 1 - 1) := by
  funext i
  simp only [wakeL, va_up]
  by_cases h1 : i = s * 12 + g - 1
  · rw [if_pos h1, if_pos (by omega)]
    unfold wakeV
    rw [show i - s * 12 + 1 = g by omega, h1]
  · rw [if_neg h1]
    by_cases h2 : s * 12 ≤ i ∧ i < s * 12 + (g - 1)
    · rw [if_pos h2, if_pos (by omega)]
    · rw [if_neg h2, if_neg (by omega)]
theorem dist_le {n y ln : Nat} : dist n y ln ≤ ln := by unfold dist; omega
theorem wk_b {q d ln g : Nat} (hq : q ≤ 1000) (hd : d ≤ 1260) : q * d * 1000 ≤ 1260000000 := by
  have := Nat.mul_le_mul (Nat.mul_le_mul hq hd) (Nat.le_refl 1000)
  omega
theorem dist_half {n y ln : Nat} (h : 0 < ln) : 2 * dist n y ln ≤ ln := by unfold dist; have := Nat.mod_lt (n * y) h; omega
-- Euclid's steps
theorem gcd_inv {d r j B : Nat} (h : d * r * 2 ^ j ≤ B) (hr : 0 < r) (h0 : j = 0 ∨ r ≤ d) (hB : j = 0 → 2 * (d * r) ≤ B) : r * (d % r) * 2 ^ (j + 1) ≤ B := by
  rcases Nat.lt_or_ge d r with q | q
  · obtain rfl : j = 0 := by omega
    rw [Nat.mod_eq_of_lt q]
    have := hB rfl
    rw [Nat.mul_comm r d]
    omega
  · have h1 : 2 * (d % r) ≤ d := by
      have h2 := Nat.mod_lt d hr
      have h3 := Nat.div_add_mod d r
      have h4 : 1 ≤ d / r := (Nat.one_le_div_iff hr).mpr q
      have h5 : r * 1 ≤ r * (d / r) := Nat.mul_le_mul_left r h4
      omega
    have h2 : r * (d % r) * 2 ≤ d * r := by
      have := Nat.mul_le_mul_left r h1
      rw [Nat.mul_comm d r, Nat.mul_assoc, Nat.mul_comm (d % r) 2]
      exact this
    have h3 := Nat.mul_le_mul_right (2 ^ j) h2
    rw [Nat.pow_succ, Nat.mul_comm (2 ^ j) 2, ← Nat.mul_assoc]
    omega
theorem gcd_end {d r j : Nat} (h : d * r * 2 ^ j ≤ 12700800) (hj : 64 ≤ j) (hd : 0 < d) : r = 0 := by
  rcases Nat.eq_zero_or_pos r with q | q
  · exact q
  · exfalso
    have h1 : 1 ≤ d * r := Nat.mul_pos hd q
    have h2 : 2 ^ 64 ≤ 2 ^ j := Nat.pow_le_pow_right (by omega) hj
    have h3 := Nat.mul_le_mul h1 h2
    omega
-- notes
def nsz (Ti : Nat → Nat) (sz k : Nat) : Nat := if Ti k = 0 ∧ sz < 52 then sz + 1 else sz
def nOr (Or Ti : Nat → Nat) (sz k : Nat) : Nat → Nat := if Ti k = 0 ∧ sz < 52 then va_up Or sz k else Or
