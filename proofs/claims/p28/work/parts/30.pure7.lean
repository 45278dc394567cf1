/-! ===== the reference's row of numbers ===== -/
def mP (M : Nat → Nat) : Nat → Nat := fun i => M (9 + 3 * i + 0)
def mH (M : Nat → Nat) : Nat → Nat := fun i => M (9 + 3 * i + 1)
def mW (M : Nat → Nat) : Nat → Nat := fun i => M (9 + 3 * i + 2)
def mT (M : Nat → Nat) : Nat → Nat := fun i => M (45 + 4 * i + 0)
def mPr (M : Nat → Nat) : Nat → Nat := fun i => M (45 + 4 * i + 1)
def mFi (M : Nat → Nat) : Nat → Nat := fun i => M (45 + 4 * i + 2)
def mPl (M : Nat → Nat) : Nat → Nat := fun i => M (45 + 4 * i + 3)
def mAm (M : Nat → Nat) : Nat → Nat := fun i => M (61 + i)
/-- the fret from which a string sounds, its position -/
def mSo (M : Nat → Nat) (s : Nat) : Nat := srcN (mP M) (mH M) (M 0) (mPr M s)
def mSt (M : Nat → Nat) (s : Nat) : Nat := atN (mP M) (mSo M s)
theorem zrem_toInt {a b : Int32} (hb : 0 < b.toInt) : (a - a / b * b).toInt = a.toInt.tmod b.toInt := by
  have h1 := a.toInt_lt
  have h2 := a.le_toInt
  have h4 := Int.tdiv_mul_self a.toInt b.toInt
  have h5 := Int.tmod_lt_of_pos a.toInt hb
  have h6 := Int.lt_tmod_of_pos a.toInt hb
  have h7 := b.toInt_lt
  rw [Int32.toInt_sub, tmul_in hb, h4, show a.toInt - (a.toInt - a.toInt.tmod b.toInt) = a.toInt.tmod b.toInt by omega]
  apply Int.bmod_eq_of_le <;> omega
theorem floor_n {a b : Int32} (hb : 0 < b.toInt) (h : ¬ nI 0 ≤ a - a / b * b) : a / b - nI 1 = Int32.ofInt (a.toInt / b.toInt) := by
  rw [Int32.le_iff_toInt_le, zrem_toInt hb, nI_toInt (by omega)] at h
  have ha : a.toInt < 0 := by
    rcases Int.lt_or_le a.toInt 0 with q | q
    · exact q
    · have := Int.tmod_nonneg b.toInt q; omega
  apply fdiv_ne hb ((xor_neg hb).mpr ha)
  intro q
  have h2 := congrArg Int32.toInt q
  rw [tmul_in hb, Int.tdiv_mul_self] at h2
  omega
theorem floor_p {a b : Int32} (hb : 0 < b.toInt) (h : nI 0 ≤ a - a / b * b) : a / b = Int32.ofInt (a.toInt / b.toInt) := by
  rw [Int32.le_iff_toInt_le, zrem_toInt hb, nI_toInt (by omega)] at h
  rcases Int.lt_or_le a.toInt 0 with q | q
  · apply fdiv_eq hb
    apply Int32.toInt_inj.mp
    rw [tmul_in hb, Int.tdiv_mul_self]
    have := Int.tmod_nonneg b.toInt (show 0 ≤ -a.toInt by omega)
    rw [Int.neg_tmod] at this
    omega
  · exact fdiv_pos hb (fun q2 => absurd ((xor_neg hb).mp q2) (by omega))
theorem mSo_le {M : Nat → Nat} {s : Nat} (hpr : ∀ i, i < 4 → mPr M i ≤ M 0) (hs : s < 4) : mSo M s ≤ M 0 := srcN_le _ _ (hpr s hs)
theorem mSt_le {M : Nat → Nat} {s : Nat} (hn : M 0 ≤ 12) (hP : ∀ i, i < 12 → mP M i ≤ 2400) (hpr : ∀ i, i < 4 → mPr M i ≤ M 0) (hs : s < 4) : mSt M s ≤ 2400 := atN_le hP (Nat.le_trans (mSo_le hpr hs) hn)
theorem src_t2 {P Hh : Nat → Nat} {f g : Nat} {x : Int32} (hP : ∀ i, i < 12 → P i ≤ 2400) (hH : ∀ i, i < 12 → Hh i ≤ 2000) (h1 : 1 ≤ f) (hg : f + 1 ≤ g) (hg2 : g ≤ 12) (ex : x = nI (Hh (g - 1)) - Int32.ofInt (lineZ (Hh (f - 1)) (P (f - 1)) (P (g - 1)))) (c : x ≤ nI (srcL P Hh f (g - f - 1)).2) : srcL P Hh f (g + 1 - f - 1) = srcL P Hh f (g - f - 1) :=
  src_t hP hH h1 hg hg2 (by rw [atN_pos (by omega), atN_pos (by omega), atN_pos (by omega), atN_pos (by omega)]; exact ex) c
theorem src_f2 {P Hh : Nat → Nat} {f g : Nat} {x : Int32} (hP : ∀ i, i < 12 → P i ≤ 2400) (hH : ∀ i, i < 12 → Hh i ≤ 2000) (h1 : 1 ≤ f) (hg : f + 1 ≤ g) (hg2 : g ≤ 12) (ex : x = nI (Hh (g - 1)) - Int32.ofInt (lineZ (Hh (f - 1)) (P (f - 1)) (P (g - 1)))) (c : ¬ x ≤ nI (srcL P Hh f (g - f - 1)).2) : (srcL P Hh f (g + 1 - f - 1)).1 = g ∧ x = nI (srcL P Hh f (g + 1 - f - 1)).2 :=
  src_f hP hH h1 hg hg2 (by rw [atN_pos (by omega), atN_pos (by omega), atN_pos (by omega), atN_pos (by omega)]; exact ex) c
def cnL (n ln : Nat) : Nat → Nat
  | 0 => 0
  | k + 1 => cnL n ln k + (if n * (k + 1) % ln = 0 then 1 else 0)
-- strings put to rest
def mq (M : Nat → Nat) (s k : Nat) : Nat → Nat := fun i => if 61 + 12 * s ≤ i ∧ i < 61 + 12 * s + k then 0 else M i
theorem mq_0 (M : Nat → Nat) (s : Nat) : M = mq M s 0 := by funext i; simp only [mq]; rw [if_neg (by omega)]
theorem mq_s (M : Nat → Nat) {s g : Nat} (h : 1 ≤ g) : va_up (mq M s (g - 1)) (61 + 12 * s + g - 1) 0 = mq M s (g + 1 - 1) := by
  funext i
  simp only [mq, va_up]
  by_cases h1 : i = 61 + 12 * s + g - 1
  · rw [if_pos h1, if_pos (by omega)]
  · rw [if_neg h1]
    by_cases h2 : 61 + 12 * s ≤ i ∧ i < 61 + 12 * s + (g - 1)
    · rw [if_pos h2, if_pos (by omega)]
    · rw [if_neg h2, if_neg (by omega)]
-- where the strings stand
def sdL (M Sd : Nat → Nat) (g : Nat) : Nat → Nat := fun i => if i < g then mSt M i else Sd i
theorem sdL_0 (M Sd : Nat → Nat) : Sd = sdL M Sd 0 := by funext i; simp only [sdL]; rw [if_neg (by omega)]
theorem sdL_s (M Sd : Nat → Nat) (g : Nat) : va_up (sdL M Sd g) g (mSt M g) = sdL M Sd (g + 1) := by
  funext i
  simp only [sdL, va_up]
  by_cases h1 : i = g
  · subst h1; rw [if_pos rfl, if_pos (by omega)]
  · rw [if_neg h1]
    by_cases h2 : i < g
    · rw [if_pos h2, if_pos (by omega)]
    · rw [if_neg h2, if_neg (by omega)]
/-- the strings below g that sound from elsewhere than they stood are at rest -/
def mvL (M Sd : Nat → Nat) (g : Nat) : Nat → Nat := fun i => if 61 ≤ i ∧ i < 61 + 12 * g ∧ mSt M ((i - 61) / 12) ≠ Sd ((i - 61) / 12) then 0 else M i
theorem mvL_0 (M Sd : Nat → Nat) : M = mvL M Sd 0 := by funext i; simp only [mvL]; rw [if_neg (by omega)]
theorem mvL_lo (M Sd : Nat → Nat) (g i : Nat) (h : i < 61) : mvL M Sd g i = M i := by simp only [mvL]; rw [if_neg (by omega)]
theorem mSt_lo {M N : Nat → Nat} (h : ∀ i, i < 61 → N i = M i) {s : Nat} (hs : s < 4) (hn : M 0 ≤ 12) (hpr : ∀ i, i < 4 → mPr M i ≤ M 0) : mSt N s = mSt M s := by
  have hsl : ∀ f k, f + k ≤ 12 → 1 ≤ f → srcL (mP N) (mH N) f k = srcL (mP M) (mH M) f k := by
    intro f k
    induction k with
    | zero => intro _ _; rfl
    | succ k ih =>
      intro hk hf
      simp only [srcL]
      rw [ih (by omega) hf]
      unfold mH mP
      rw [h (9 + 3 * (f + k) + 1) (by omega), h (9 + 3 * (f - 1) + 1) (by omega), h (9 + 3 * (f - 1) + 0) (by omega), h (9 + 3 * (f + k) + 0) (by omega)]
  have hp1 : mPr N s = mPr M s := h _ (by omega)
  have hso : mSo N s = mSo M s := by
    unfold mSo srcN
    rw [hp1, h 0 (by omega)]
    split
    · rfl
    · rename_i q
      have := hpr s hs
      rw [hsl _ _ (by omega) (by omega)]
  unfold mSt atN
  rw [hso]
  have hle := mSo_le hpr hs
  split
  · rfl
  · exact h _ (by omega)
theorem mvL_t {M Sd : Nat → Nat} {g : Nat} (c : mSt M g ≠ Sd g) : mq (mvL M Sd g) g 12 = mvL M Sd (g + 1) := by
  funext i
  simp only [mq, mvL]
  by_cases h2 : 61 + 12 * g ≤ i ∧ i < 61 + 12 * g + 12
  · have : (i - 61) / 12 = g := by omega
    rw [if_pos h2, if_pos ⟨by omega, by omega, by rw [this]; exact c⟩]
  · rw [if_neg h2]
    by_cases h3 : 61 ≤ i ∧ i < 61 + 12 * g ∧ mSt M ((i - 61) / 12) ≠ Sd ((i - 61) / 12)
    · rw [if_pos h3, if_pos ⟨by omega, by omega, h3.2.2⟩]
    · rw [if_neg h3, if_neg (fun q => h3 ⟨by omega, by omega, q.2.2⟩)]
theorem mvL_f {M Sd : Nat → Nat} {g : Nat} (c : mSt M g = Sd g) : mvL M Sd g = mvL M Sd (g + 1) := by
  funext i
  simp only [mvL]
  by_cases h3 : 61 ≤ i ∧ i < 61 + 12 * g ∧ mSt M ((i - 61) / 12) ≠ Sd ((i - 61) / 12)
  · rw [if_pos h3, if_pos ⟨by omega, by omega, h3.2.2⟩]
  · rw [if_neg h3, if_neg (fun q => h3 ⟨q.1, by
      rcases Nat.lt_or_ge i (61 + 12 * g) with z | z
      · exact z
      · have : (i - 61) / 12 = g := by omega
        rw [this] at q
        exact absurd c q.2.2, q.2.2⟩)]
-- bits, one taken off at a time
theorem pop_off0 : ∀ i, i < 64 → ∀ j, j < 64 → i * 64 + j ≠ 0 → popc ((i * 64 + j) &&& (i * 64 + j - 1)) + 1 = popc (i * 64 + j) ∧ ((i * 64 + j) &&& (i * 64 + j - 1)) < i * 64 + j := by decide +kernel
theorem pop_off {a : Nat} (h : a < 4096) (h0 : 0 < a) : popc (a &&& (a - 1)) + 1 = popc a ∧ (a &&& (a - 1)) < a := by
  have := pop_off0 (a / 64) (by omega) (a % 64) (by omega)
  rw [show a / 64 * 64 + a % 64 = a by omega] at this
  exact this (by omega)
-- the records
def rcA (Pa : Nat → Nat) (k : Nat) : Nat → Nat := fun i => if i < k then Pa (i + 265) else Pa i
theorem rcA_0 (Pa : Nat → Nat) : Pa = rcA Pa 0 := by funext i; simp only [rcA]; rw [if_neg (by omega)]
theorem rcA_s (Pa : Nat → Nat) (k : Nat) : va_up (rcA Pa k) k (rcA Pa k (k + 265)) = rcA Pa (k + 1) := by
  funext i
  simp only [rcA, va_up]
  by_cases h1 : i = k
  · subst h1; rw [if_pos rfl, if_neg (by omega), if_pos (by omega)]
  · rw [if_neg h1]
    by_cases h2 : i < k
    · rw [if_pos h2, if_pos (by omega)]
    · rw [if_neg h2, if_neg (by omega)]
def rcB (Pa M : Nat → Nat) (b k : Nat) : Nat → Nat := fun i => if b ≤ i ∧ i < b + k then M (i - b) else Pa i
theorem rcB_0 (Pa M : Nat → Nat) (b : Nat) : Pa = rcB Pa M b 0 := by funext i; simp only [rcB]; rw [if_neg (by omega)]
theorem rcB_s (Pa M : Nat → Nat) (b k : Nat) : va_up (rcB Pa M b k) (b + k) (M k) = rcB Pa M b (k + 1) := by
  funext i
  simp only [rcB, va_up]
  by_cases h1 : i = b + k
  · subst h1; rw [if_pos rfl, if_pos (by omega), show b + k - b = k by omega]
  · rw [if_neg h1]
    by_cases h2 : b ≤ i ∧ i < b + k
    · rw [if_pos h2, if_pos (by omega)]
    · rw [if_neg h2, if_neg (by omega)]
def rcP (Pa M : Nat → Nat) (pz : Nat) : Nat → Nat := if pz = 4 then rcB (rcA Pa 795) M 795 265 else rcB Pa M (265 * pz) 265
def rcS (pz : Nat) : Nat := if pz = 4 then 4 else pz + 1
def unM (M Pa : Nat → Nat) (b k : Nat) : Nat → Nat := fun i => if i < k then Pa (b + i) else M i
theorem unM_0 (M Pa : Nat → Nat) (b : Nat) : M = unM M Pa b 0 := by funext i; simp only [unM]; rw [if_neg (by omega)]
theorem unM_s (M Pa : Nat → Nat) (b k : Nat) : va_up (unM M Pa b k) k (Pa (b + k)) = unM M Pa b (k + 1) := by
  funext i
  simp only [unM, va_up]
  by_cases h1 : i = k
  · subst h1; rw [if_pos rfl, if_pos (by omega)]
  · rw [if_neg h1]
    by_cases h2 : i < k
    · rw [if_pos h2, if_pos (by omega)]
    · rw [if_neg h2, if_neg (by omega)]
