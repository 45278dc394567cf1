/-! ===== the reference's changes, as numbers ===== -/
def msL (M : Nat → Nat) (f snd : Nat) : Nat → Nat
  | 0 => 0
  | k + 1 => msL M f snd k ||| (if (if snd = 0 then mPr M k else mSo M k) = f then 2 ^ k else 0)
def ntF (M : Nat → Nat) (s f : Nat) : Nat → Nat → Nat
  | 0, k => k
  | j + 1, k => if M (109 + 3 * k) = s ∧ M (109 + 3 * k + 1) = f then k else ntF M s f j (k + 1)
theorem ntF_n {M : Nat → Nat} {s f g n X : Nat} (h : X = ntF M s f (n - g) g) (hg : g < n) (c : ¬ (M (109 + 3 * g) = s ∧ M (109 + 3 * g + 1) = f)) : X = ntF M s f (n - (g + 1)) (g + 1) := by
  obtain ⟨m, hm⟩ : ∃ m, n - g = m + 1 := ⟨n - g - 1, by omega⟩
  rw [h, hm, show n - (g + 1) = m by omega]
  simp only [ntF]
  rw [if_neg c]
theorem ntF_y {M : Nat → Nat} {s f g n X : Nat} (h : X = ntF M s f (n - g) g) (hg : g < n) (c : M (109 + 3 * g) = s ∧ M (109 + 3 * g + 1) = f) : X = g := by
  obtain ⟨m, hm⟩ : ∃ m, n - g = m + 1 := ⟨n - g - 1, by omega⟩
  rw [h, hm]
  simp only [ntF]
  rw [if_pos c]
theorem ntF_e {M : Nat → Nat} {s f g n X : Nat} (h : X = ntF M s f (n - g) g) (hg : n ≤ g) : X = g := by
  rw [h, show n - g = 0 by omega]
  rfl
def ntU (M : Nat → Nat) (s f k : Nat) : Nat → Nat := va_up (va_up (va_up (va_up (va_up M (109 + 3 * k) s) (109 + 3 * k + 1) f) (109 + 3 * k + 2) 0) 3 (M 3 + 1)) (109 + 3 * k + 2) (0 + 1)
def ntM (M : Nat → Nat) (s f : Nat) : Nat → Nat := if ntF M s f (M 3) 0 = M 3 then ntU M s f (ntF M s f (M 3) 0) else va_up M (109 + 3 * ntF M s f (M 3) 0 + 2) (M (109 + 3 * ntF M s f (M 3) 0 + 2) + 1)
-- wear
def wrM (M : Nat → Nat) (f w h lo : Nat) : Nat → Nat := fun j => if j = 9 + 3 * (f - 1) + 2 then w else if j = 9 + 3 * (f - 1) + 1 then h else if j = 2 then lo else M j
theorem wrM_w (M : Nat → Nat) (f w h lo : Nat) : wrM M f w h lo (9 + 3 * (f - 1) + 2) = w := by unfold wrM; rw [if_pos rfl]
theorem wrM_h (M : Nat → Nat) (f w h lo : Nat) : wrM M f w h lo (9 + 3 * (f - 1) + 1) = h := by unfold wrM; rw [if_neg (by omega), if_pos rfl]
theorem wrM_2 (M : Nat → Nat) (f w h lo : Nat) : wrM M f w h lo 2 = lo := by unfold wrM; rw [if_neg (by omega), if_neg (by omega), if_pos rfl]
theorem wrM_7 (M : Nat → Nat) (f w h lo : Nat) : wrM M f w h lo 7 = M 7 := by simp only [wrM]; rw [if_neg (by omega), if_neg (by omega), if_neg (by omega)]
theorem wrM_i (M : Nat → Nat) (f w : Nat) : va_up M (9 + 3 * (f - 1) + 2) w = wrM M f w (M (9 + 3 * (f - 1) + 1)) (M 2) := by
  funext j
  simp only [wrM, va_up]
  by_cases h1 : j = 9 + 3 * (f - 1) + 2
  · rw [if_pos h1, if_pos h1]
  · rw [if_neg h1, if_neg h1]
    by_cases h2 : j = 9 + 3 * (f - 1) + 1
    · rw [if_pos h2, h2]
    · rw [if_neg h2]
      by_cases h3 : j = 2
      · rw [if_pos h3, h3]
      · rw [if_neg h3]
theorem wrM_u (M : Nat → Nat) (f w h lo w2 h2 lo2 : Nat) : va_up (va_up (va_up (wrM M f w h lo) (9 + 3 * (f - 1) + 2) w2) (9 + 3 * (f - 1) + 1) h2) 2 lo2 = wrM M f w2 h2 lo2 := by
  funext j
  simp only [wrM, va_up]
  by_cases h1 : j = 9 + 3 * (f - 1) + 2
  · rw [if_neg (by omega), if_neg (by omega), if_pos h1, if_pos h1]
  · by_cases h2 : j = 9 + 3 * (f - 1) + 1
    · rw [if_neg (by omega), if_pos h2, if_neg h1, if_pos h2]
    · by_cases h3 : j = 2
      · rw [if_pos h3, if_neg h1, if_neg h2, if_pos h3]
      · rw [if_neg h3, if_neg h2, if_neg h1, if_neg h1, if_neg h2, if_neg h3, if_neg h1, if_neg h2, if_neg h3]
def wrK (M : Nat → Nat) (f q : Nat) : Nat := wlost (mH M) (mW M) f q (M 7)
def wrA (M : Nat → Nat) (f q : Nat) : Nat → Nat := wrM M f (M (9 + 3 * (f - 1) + 2) + q - wrK M f q * M 7) (M (9 + 3 * (f - 1) + 1) - wrK M f q) (M 2 + wrK M f q)
theorem wr_end {H W per i : Nat} (hp : 1 ≤ per) (h1 : i * per ≤ W) (h2 : i ≤ H) (c : W - i * per < per ∨ H - i = 0) : i = min H (W / per) := by
  have h3 : i ≤ W / per := (Nat.le_div_iff_mul_le (by omega)).mpr h1
  rcases c with c | c
  · have h4 : W / per < i + 1 := (Nat.div_lt_iff_lt_mul (by omega)).mpr (by rw [Nat.add_mul]; omega)
    omega
  · omega
theorem wr_step {W per i : Nat} (h1 : i * per ≤ W) (c : per ≤ W - i * per) : (i + 1) * per ≤ W ∧ W - i * per - per = W - (i + 1) * per := by
  rw [Nat.add_mul]
  omega
-- a pluck's waking
def pwV (M : Nat → Nat) (s y ln q i : Nat) : Nat := min 1000000 (M i + q * dist (i - (61 + 12 * s) + 1) y ln * 1000 / (ln * (i - (61 + 12 * s) + 1)))
def pwL (M : Nat → Nat) (s y ln q k : Nat) : Nat → Nat := fun i => if 61 + 12 * s ≤ i ∧ i < 61 + 12 * s + k then pwV M s y ln q i else M i
theorem pwL_0 (M : Nat → Nat) (s y ln q : Nat) : M = pwL M s y ln q 0 := by funext i; simp only [pwL]; rw [if_neg (by omega)]
theorem pwL_at (M : Nat → Nat) {s y ln q g : Nat} (h : 1 ≤ g) : pwL M s y ln q (g - 1) (61 + 12 * s + g - 1) = M (61 + 12 * s + g - 1) := by simp only [pwL]; rw [if_neg (by omega)]
theorem pwL_s (M : Nat → Nat) {s y ln q g v : Nat} (h : 1 ≤ g) (hv : v = min 1000000 (M (61 + 12 * s + g - 1) + q * dist g y ln * 1000 / (ln * g))) : va_up (pwL M s y ln q (g - 1)) (61 + 12 * s + g - 1) v = pwL M s y ln q (g + 1 - 1) := by
  funext i
  simp only [pwL, va_up]
  by_cases h1 : i = 61 + 12 * s + g - 1
  · rw [if_pos h1, if_pos (by omega), hv]
    unfold pwV
    rw [show i - (61 + 12 * s) + 1 = g by omega, h1]
  · rw [if_neg h1]
    by_cases h2 : 61 + 12 * s ≤ i ∧ i < 61 + 12 * s + (g - 1)
    · rw [if_pos h2, if_pos (by omega)]
    · rw [if_neg h2, if_neg (by omega)]
-- ticks
def mdm (M : Nat → Nat) (s n : Nat) : Nat := if mSt M s < mFi M s ∧ ¬ n * (mFi M s - mSt M s) % (2520 - mSt M s) = 0 then 1 else 0
def gnV (M : Nat → Nat) (k i : Nat) : Nat := fadeN (M 4) (M 5) (M 6) ((i - 61) % 12 + 1) (mdm M ((i - 61) / 12) ((i - 61) % 12 + 1)) k (M i)
def gnL (M : Nat → Nat) (k c : Nat) : Nat → Nat := fun i => if 61 ≤ i ∧ i < 61 + c then gnV M k i else M i
theorem gnL_0 (M : Nat → Nat) (k : Nat) : M = gnL M k 0 := by funext i; simp only [gnL]; rw [if_neg (by omega)]
theorem gnL_lo (M : Nat → Nat) (k c i : Nat) (h : i < 61) : gnL M k c i = M i := by simp only [gnL]; rw [if_neg (by omega)]
theorem gnL_at {M : Nat → Nat} {k s g : Nat} (h : 1 ≤ g) : gnL M k (12 * s + (g - 1)) (61 + 12 * s + g - 1) = M (61 + 12 * s + g - 1) := by simp only [gnL]; rw [if_neg (by omega)]
theorem gnL_s {M : Nat → Nat} {k s g v : Nat} (h : 1 ≤ g) (h2 : g ≤ 12) (hv : v = fadeN (M 4) (M 5) (M 6) g (mdm M s g) k (M (61 + 12 * s + g - 1))) : va_up (gnL M k (12 * s + (g - 1))) (61 + 12 * s + g - 1) v = gnL M k (12 * s + (g + 1 - 1)) := by
  funext i
  simp only [gnL, va_up]
  by_cases h1 : i = 61 + 12 * s + g - 1
  · rw [if_pos h1, if_pos (by omega), hv]
    unfold gnV
    rw [show (i - 61) % 12 + 1 = g by omega, show (i - 61) / 12 = s by omega, h1]
  · rw [if_neg h1]
    by_cases h2 : 61 ≤ i ∧ i < 61 + (12 * s + (g - 1))
    · rw [if_pos h2, if_pos (by omega)]
    · rw [if_neg h2, if_neg (by omega)]
-- longs
theorem fd_l {a w : Nat} {A Wt : Int64} (hA : A = lN a) (hW : Wt = lN w) (ha : a ≤ 1000000) (hw : w ≤ 3000) : A - A * Wt / (1000 : Int64) = Int64.ofInt ((a : Int) - (a * w / 1000 : Nat)) := by
  subst hA; subst hW
  rw [lN_mul, show (1000 : Int64) = lN 1000 from rfl]
  have h1 : a * w ≤ 1000000 * 3000 := Nat.mul_le_mul ha hw
  rw [pk_lDiv (by omega) (by omega) (by omega)]
  rw [Int64.ofInt_sub]
  congr 1 <;> exact (Int64.ofInt_eq_ofNat).symm
theorem pr_up {M : Nat → Nat} {s f : Nat} (hn : M 0 ≤ 12) (hP : ∀ i, i < 12 → mP M i ≤ 2400) (hH : ∀ i, i < 12 → mH M i ≤ 2000) (hpr : ∀ i, i < 4 → mPr M i ≤ M 0) (hs : s < 4) (hf : f ≤ M 0) : va_up M (45 + 4 * s + 1) f 0 ≤ 12 ∧ (∀ i, i < 12 → mP (va_up M (45 + 4 * s + 1) f) i ≤ 2400) ∧ (∀ i, i < 12 → mH (va_up M (45 + 4 * s + 1) f) i ≤ 2000) ∧ (∀ i, i < 4 → mPr (va_up M (45 + 4 * s + 1) f) i ≤ va_up M (45 + 4 * s + 1) f 0) := by
  have e0 : va_up M (45 + 4 * s + 1) f 0 = M 0 := by simp only [va_up]; rw [if_neg (by omega)]
  rw [e0]
  refine ⟨hn, fun i hi => ?_, fun i hi => ?_, fun i hi => ?_⟩
  · unfold mP; simp only [va_up]; rw [if_neg (by omega)]; exact hP i hi
  · unfold mH; simp only [va_up]; rw [if_neg (by omega)]; exact hH i hi
  · unfold mPr; simp only [va_up]
    split
    · exact hf
    · exact hpr i hi
