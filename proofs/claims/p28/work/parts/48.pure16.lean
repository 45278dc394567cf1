/-! ===== the reference's calls, III ===== -/
def ctA (M : Nat → Nat) (pz len k : Nat) : Int32 := if k < 2 then nI (M k) else if k = 2 then nI (hrL (mAm M) (M 8) 4) else if k = 3 then nI (osL M 3 4) else if k = 4 then nI (M 3) else if k = 5 then nI (osL M 5 4) else if k = 6 then nI (M 2) else if k < 12 then nI (M (4 + (k - 7))) else if k = 12 then nI pz else nI len
/-- the least of the lines of the first frets at a place, 2000 at most -/
def moL (M : Nat → Nat) (y : Nat) : Nat → Int32
  | 0 => nI 2000
  | k + 1 => if moL M y k ≤ Int32.ofInt (lineZ (mH M k) (mP M k) y) then moL M y k else Int32.ofInt (lineZ (mH M k) (mP M k) y)
theorem mo_t {M : Nat → Nat} {y g : Nat} (h : 1 ≤ g) (c : moL M y (g - 1) ≤ Int32.ofInt (lineZ (mH M (g - 1)) (mP M (g - 1)) y)) : moL M y (g - 1) = moL M y (g + 1 - 1) := by
  obtain ⟨k, rfl⟩ : ∃ k, g = k + 1 := ⟨g - 1, by omega⟩
  rw [Nat.add_sub_cancel] at *
  rw [Nat.add_sub_cancel]
  conv => rhs; simp only [moL]
  rw [if_pos c]
theorem mo_f {M : Nat → Nat} {y g : Nat} (h : 1 ≤ g) (c : ¬ moL M y (g - 1) ≤ Int32.ofInt (lineZ (mH M (g - 1)) (mP M (g - 1)) y)) : Int32.ofInt (lineZ (mH M (g - 1)) (mP M (g - 1)) y) = moL M y (g + 1 - 1) := by
  obtain ⟨k, rfl⟩ : ∃ k, g = k + 1 := ⟨g - 1, by omega⟩
  rw [Nat.add_sub_cancel] at *
  rw [Nat.add_sub_cancel]
  conv => rhs; simp only [moL]
  rw [if_neg c]
/-- the rows of frets from k on pushed up by one -/
def frS (M : Nat → Nat) (n k : Nat) : Nat → Nat := fun i => if i = 0 then n + 1 else if 9 + 3 * (k + 1) ≤ i ∧ i < 9 + 3 * (n + 1) then M (i - 3) else M i
def frT (M : Nat → Nat) (n g w : Nat) : Nat → Nat := fun i => if i = 0 then n + 1 else if (9 + 3 * g ≤ i ∧ i < 9 + 3 * (n + 1)) ∨ (9 + 3 * (g - 1) ≤ i ∧ i < 9 + 3 * (g - 1) + w) then M (i - 3) else M i
theorem frS_0 (M : Nat → Nat) {v : Nat} (hv : v = M 0 + 1) : va_up M 0 v = frS M (M 0) (v - 1) := by
  subst hv
  funext i
  simp only [va_up, frS]
  split
  · rfl
  · rw [if_neg (by omega)]
theorem frS_p {M : Nat → Nat} {n g : Nat} (h : 1 < g) : frS M n (g - 1) (9 + 3 * (g - 1 - 1) + 0) = M (9 + 3 * (g - 1 - 1) + 0) := by
  simp only [frS]; rw [if_neg (by omega), if_neg (by omega)]
theorem frT_0 {M : Nat → Nat} {n g : Nat} (h : 1 ≤ g) : frS M n (g - 1) = frT M n g 0 := by
  funext i
  simp only [frS, frT]
  split
  · rfl
  · by_cases h1 : 9 + 3 * (g - 1 + 1) ≤ i ∧ i < 9 + 3 * (n + 1)
    · rw [if_pos h1, if_pos (by omega)]
    · rw [if_neg h1, if_neg (by omega)]
theorem frT_s {M : Nat → Nat} {n g w : Nat} (h : 1 < g) (hg : g ≤ n + 1) (hw : w < 3) : va_up (frT M n g w) (9 + 3 * (g - 1) + w) (frT M n g w (9 + 3 * (g - 1 - 1) + w)) = frT M n g (w + 1) := by
  funext i
  simp only [va_up]
  by_cases h1 : i = 9 + 3 * (g - 1) + w
  · rw [if_pos h1]
    simp only [frT]
    rw [if_neg (by omega), if_neg (by omega), if_neg (by omega), if_pos (by omega)]
    congr 1; omega
  · rw [if_neg h1]
    simp only [frT]
    by_cases h2 : i = 0
    · rw [if_pos h2, if_pos h2]
    · rw [if_neg h2, if_neg h2]
      by_cases h3 : (9 + 3 * g ≤ i ∧ i < 9 + 3 * (n + 1)) ∨ (9 + 3 * (g - 1) ≤ i ∧ i < 9 + 3 * (g - 1) + w)
      · rw [if_pos h3, if_pos (by omega)]
      · rw [if_neg h3, if_neg (by omega)]
theorem frT_3 {M : Nat → Nat} {n g : Nat} (h : 1 < g) (hg : g ≤ n + 1) : frT M n g 3 = frS M n (g - 1 - 1) := by
  funext i
  simp only [frS, frT]
  split
  · rfl
  · by_cases h1 : (9 + 3 * g ≤ i ∧ i < 9 + 3 * (n + 1)) ∨ (9 + 3 * (g - 1) ≤ i ∧ i < 9 + 3 * (g - 1) + 3)
    · rw [if_pos h1, if_pos (by omega)]
    · rw [if_neg h1, if_neg (by omega)]
def frI (M : Nat → Nat) (n k y h : Nat) : Nat → Nat := va_up (va_up (va_up (frS M n k) (9 + 3 * k + 0) y) (9 + 3 * k + 1) h) (9 + 3 * k + 2) 0
/-- the frets that the first strings are pressed at, pushed up from f on -/
def mrM (M : Nat → Nat) (f t : Nat) : Nat → Nat := fun i => if 45 ≤ i ∧ i < 45 + 4 * t ∧ (i - 45) % 4 = 1 then (if f ≤ M i then M i + 1 else M i) else M i
theorem mrM_0 (M : Nat → Nat) (f : Nat) : M = mrM M f 0 := by funext i; simp only [mrM]; rw [if_neg (by omega)]
theorem mrM_at {M : Nat → Nat} {f t : Nat} : mrM M f t (45 + 4 * t + 1) = M (45 + 4 * t + 1) := by simp only [mrM]; rw [if_neg (by omega)]
theorem mrM_s {M : Nat → Nat} {f t v : Nat} (hv : v = if f ≤ M (45 + 4 * t + 1) then M (45 + 4 * t + 1) + 1 else M (45 + 4 * t + 1)) : va_up (mrM M f t) (45 + 4 * t + 1) v = mrM M f (t + 1) := by
  funext i
  simp only [va_up, mrM]
  by_cases h1 : i = 45 + 4 * t + 1
  · rw [if_pos h1, if_pos (by omega), hv, h1]
  · rw [if_neg h1]
    by_cases h2 : 45 ≤ i ∧ i < 45 + 4 * t ∧ (i - 45) % 4 = 1
    · rw [if_pos h2, if_pos (show 45 ≤ i ∧ i < 45 + 4 * (t + 1) ∧ (i - 45) % 4 = 1 by omega)]
    · rw [if_neg h2, if_neg (by omega)]
def frM (M : Nat → Nat) (y h : Nat) : Nat → Nat := mrM (frI M (M 0) (insI (mP M) y (M 0)) y h) (insI (mP M) y (M 0) + 1) 4
theorem frI_pr {M : Nat → Nat} {n k y h i : Nat} (hk : k ≤ n) (hn : n < 12) (hi : 45 ≤ i) : frI M n k y h i = M i := by
  unfold frI
  simp only [va_up, frS]
  rw [if_neg (by omega), if_neg (by omega), if_neg (by omega), if_neg (by omega), if_neg (by omega)]
theorem frI_lo {M : Nat → Nat} {n k y h i : Nat} (hi : 1 ≤ i) (hi2 : i < 9) : frI M n k y h i = M i := by
  unfold frI
  simp only [va_up, frS]
  rw [if_neg (by omega), if_neg (by omega), if_neg (by omega), if_neg (by omega), if_neg (by omega)]
theorem frI_0 {M : Nat → Nat} {n k y h : Nat} : frI M n k y h 0 = n + 1 := by
  unfold frI
  simp only [va_up, frS]
  rw [if_neg (by omega), if_neg (by omega), if_neg (by omega), if_pos trivial]
theorem frI_w {M : Nat → Nat} {n k y h i w : Nat} (hk : k ≤ n) (hn : n < 12) (hi : i < 12) (hw : w < 3) : frI M n k y h (9 + 3 * i + w) = insA (fun j => M (9 + 3 * j + w)) n k (if w = 0 then y else if w = 1 then h else 0) i := by
  unfold frI insA
  simp only [va_up, frS, shf]
  by_cases h0 : i = k
  · subst h0
    rw [if_pos rfl]
    rcases Nat.lt_or_ge w 1 with q | q
    · obtain rfl : w = 0 := (by omega)
      rw [if_neg (by omega), if_neg (by omega), if_pos rfl, if_pos rfl]
    · rcases Nat.lt_or_ge w 2 with q2 | q2
      · obtain rfl : w = 1 := (by omega)
        rw [if_neg (by omega), if_pos rfl, if_neg (by omega), if_pos rfl]
      · obtain rfl : w = 2 := (by omega)
        rw [if_pos rfl, if_neg (by omega), if_neg (by omega)]
  · rw [if_neg (by omega), if_neg (by omega), if_neg (by omega), if_neg (by omega), if_neg h0]
    by_cases h1 : k < i ∧ i ≤ n
    · rw [if_pos (by omega), if_pos h1]; congr 1; omega
    · rw [if_neg (by omega), if_neg h1]
theorem frM_w {M : Nat → Nat} {y h i w : Nat} (hn : M 0 < 12) (hi : i < 12) (hw : w < 3) : frM M y h (9 + 3 * i + w) = insA (fun j => M (9 + 3 * j + w)) (M 0) (insI (mP M) y (M 0)) (if w = 0 then y else if w = 1 then h else 0) i := by
  unfold frM
  simp only [mrM]
  rw [if_neg (by omega)]
  exact frI_w (insI_le _ _ _) hn hi hw
theorem frM_p {M : Nat → Nat} {y h s : Nat} (hn : M 0 < 12) (hs : s < 4) : mPr (frM M y h) s = mrfL (mPr M) (insI (mP M) y (M 0) + 1) 4 s := by
  unfold mPr frM
  simp only [mrM, mrfL]
  rw [if_pos (by omega), frI_pr (insI_le _ _ _) hn (by omega)]
  by_cases q : insI (mP M) y (M 0) + 1 ≤ M (45 + 4 * s + 1)
  · rw [if_pos q, if_pos ⟨hs, q⟩]
  · rw [if_neg q, if_neg (fun z => q z.2)]
theorem frM_0 {M : Nat → Nat} {y h : Nat} : frM M y h 0 = M 0 + 1 := by
  unfold frM
  simp only [mrM]
  rw [if_neg (by omega)]
  exact frI_0
theorem NK_fr {M : Nat → Nat} {y h : Nat} (hn : M 0 < 12) (hy : y ≤ 2400) (hh : h ≤ 2000) (k : NK M) : NK (frM M y h) := by
  obtain ⟨h1, h2, h3, h4⟩ := k
  refine ⟨by rw [frM_0]; omega, fun i hi => ?_, fun i hi => ?_, fun i hi => ?_⟩
  · unfold mP; rw [frM_w hn hi (by omega)]; exact insA_le h2 (by rw [if_pos rfl]; exact hy) i hi
  · unfold mH; rw [frM_w hn hi (by omega)]; exact insA_le h3 (by rw [if_neg (by omega), if_pos rfl]; exact hh) i hi
  · rw [frM_p hn hi, frM_0]; exact mrfL_le h4 i hi
theorem fr_e {M : Nat → Nat} {y g : Nat} (h : 1 < g) (c : M (9 + 3 * (g - 1 - 1) + 0) ≤ y) : insI (mP M) y (g - 1) = g - 1 := by
  obtain ⟨k, rfl⟩ : ∃ k, g = k + 2 := ⟨g - 2, by omega⟩
  rw [show k + 2 - 1 = k + 1 by omega, Nat.add_sub_cancel] at *
  simp only [insI]
  rw [if_neg (by unfold mP; omega)]
theorem fr_b {M : Nat → Nat} {y g : Nat} (h : 1 < g) (c : y < M (9 + 3 * (g - 1 - 1) + 0)) : insI (mP M) y (g - 1) = insI (mP M) y (g - 1 - 1) := by
  obtain ⟨k, rfl⟩ : ∃ k, g = k + 2 := ⟨g - 2, by omega⟩
  rw [show k + 2 - 1 = k + 1 by omega, Nat.add_sub_cancel] at *
  conv => lhs; simp only [insI]
  rw [if_pos (by unfold mP; omega)]
