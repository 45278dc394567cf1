/-! ===== a text played by the reference ===== -/
def pyA (Tx : Nat → Nat) (len : Nat) (M Sd : Nat → Nat) (p : Nat) : Nat → Nat := mvL (va_up M (45 + 4 * a0 Tx len p + 1) (fV Tx len p)) (sdL M Sd 4) 4
def pyB (Tx : Nat → Nat) (len : Nat) (M Sd : Nat → Nat) (p : Nat) : Nat → Nat := pk6 (pyA Tx len M Sd p) (sdL M Sd 4) (a0 Tx len p) 2460 (qV Tx len p)
def pyM (Tx : Nat → Nat) (len : Nat) (M Sd : Nat → Nat) (p : Nat) : Nat → Nat := va_up (gnL (pyB Tx len M Sd p) (tV Tx len p) 48) 1 (pyB Tx len M Sd p 1 + tV Tx len p)
def pyD (Tx : Nat → Nat) (len : Nat) (M Sd : Nat → Nat) (p : Nat) : Nat → Nat := pkS (pyA Tx len M Sd p) (sdL M Sd 4) (a0 Tx len p) 2460 (qV Tx len p)
def plL (Tx : Nat → Nat) (len : Nat) : Nat → (Nat → Nat) → (Nat → Nat) → Nat → (Nat → Nat) × (Nat → Nat) × Nat
  | 0, M, Sd, _ => (M, Sd, 0)
  | k + 1, M, Sd, p => if p < len then ((plL Tx len k (pyM Tx len M Sd p) (pyD Tx len M Sd p) (e3 Tx len p + 1)).1, (plL Tx len k (pyM Tx len M Sd p) (pyD Tx len M Sd p) (e3 Tx len p + 1)).2.1, (plL Tx len k (pyM Tx len M Sd p) (pyD Tx len M Sd p) (e3 Tx len p + 1)).2.2 + 1) else (M, Sd, 0)
theorem pl_s {Tx M Sd Mz Sz : Nat → Nat} {len p j : Nat} (h : plL Tx len 80 M Sd 0 = ((plL Tx len (80 - j) Mz Sz p).1, (plL Tx len (80 - j) Mz Sz p).2.1, (plL Tx len (80 - j) Mz Sz p).2.2 + j)) (hj : j < 80) (hp : p < len) : plL Tx len 80 M Sd 0 = ((plL Tx len (80 - (j + 1)) (pyM Tx len Mz Sz p) (pyD Tx len Mz Sz p) (e3 Tx len p + 1)).1, (plL Tx len (80 - (j + 1)) (pyM Tx len Mz Sz p) (pyD Tx len Mz Sz p) (e3 Tx len p + 1)).2.1, (plL Tx len (80 - (j + 1)) (pyM Tx len Mz Sz p) (pyD Tx len Mz Sz p) (e3 Tx len p + 1)).2.2 + (j + 1)) := by
  obtain ⟨m, hm⟩ : ∃ m, 80 - j = m + 1 := ⟨80 - j - 1, by omega⟩
  rw [h, hm, show 80 - (j + 1) = m by omega]
  conv => lhs; simp only [plL]
  rw [if_pos hp]
  refine Prod.ext rfl (Prod.ext rfl ?_)
  show _ + 1 + j = _ + (j + 1)
  omega
theorem pl_z {Tx M Sd Mz Sz : Nat → Nat} {len p j : Nat} (h : plL Tx len 80 M Sd 0 = ((plL Tx len (80 - j) Mz Sz p).1, (plL Tx len (80 - j) Mz Sz p).2.1, (plL Tx len (80 - j) Mz Sz p).2.2 + j)) (hp : len ≤ p) : plL Tx len 80 M Sd 0 = (Mz, Sz, j) := by
  rw [h]
  have e : plL Tx len (80 - j) Mz Sz p = (Mz, Sz, 0) := by
    rcases Nat.eq_zero_or_pos (80 - j) with q | q
    · rw [q]; rfl
    · obtain ⟨m, hm⟩ : ∃ m, 80 - j = m + 1 := ⟨80 - j - 1, by omega⟩
      rw [hm]
      simp only [plL]
      rw [if_neg (by omega)]
  rw [e]
  exact Prod.ext rfl (Prod.ext rfl (Nat.zero_add j))
theorem py_rs {Ch : Nat → Nat} {len n p t j : Nat} (h : (ffN Ch len n (80 - j) p t).1 = 0) (hj : j < 80) (hp : p < len) : rsN Ch len p n t = 0 := by
  rcases Nat.eq_zero_or_pos (rsN Ch len p n t) with q | q
  · exact q
  · rw [ff_e hj hp (by omega)] at h
    exact h
theorem py_ff {Ch : Nat → Nat} {len n p t j : Nat} (h : (ffN Ch len n (80 - j) p t).1 = 0) (hj : j < 80) (hp : p < len) : (ffN Ch len n (80 - (j + 1)) (e3 Ch len p + 1) (t + tV Ch len p)).1 = 0 := by
  rw [← ff_s rfl hj hp (py_rs h hj hp)]
  exact h
theorem rs_fx {Ch : Nat → Nat} {len p n tb : Nat} (h : rsN Ch len p n tb = 0) : okN Ch len p ∧ fV Ch len p ≤ n ∧ (1 ≤ qV Ch len p ∧ qV Ch len p ≤ 1000) ∧ tV Ch len p ≤ 500 ∧ tb + tV Ch len p ≤ 100000 := by
  have h1 := rs_ok h
  unfold rsN at h
  rw [if_neg (fun q => q h1)] at h
  by_cases h2 : n < fV Ch len p
  · rw [if_pos h2] at h; omega
  · rw [if_neg h2] at h
    by_cases h3 : ¬ (1 ≤ qV Ch len p ∧ qV Ch len p ≤ 1000) ∨ (sgn Ch len (e2 Ch len p) = 43 ∧ ¬ (1 ≤ tV Ch len p ∧ tV Ch len p ≤ 500))
    · rw [if_pos h3] at h; omega
    · rw [if_neg h3] at h
      by_cases h4 : 100000 < tb + tV Ch len p
      · rw [if_pos h4] at h; omega
      · have h5 : 1 ≤ qV Ch len p ∧ qV Ch len p ≤ 1000 := Classical.byContradiction (fun q => h3 (Or.inl q))
        refine ⟨h1, by omega, h5, ?_, by omega⟩
        by_cases h6 : sgn Ch len (e2 Ch len p) = 43
        · have h7 : 1 ≤ tV Ch len p ∧ tV Ch len p ≤ 500 := Classical.byContradiction (fun q => h3 (Or.inr ⟨h6, q⟩))
          exact h7.2
        · unfold tV; rw [if_neg h6]; omega
theorem py_lo {Tx M Sd : Nat → Nat} {len p i : Nat} (hs : a0 Tx len p < 4) (k : NK (pyA Tx len M Sd p)) (hi : i = 0 ∨ i = 1) : pyB Tx len M Sd p i = M i := by
  unfold pyB
  rw [pk6_lo hs k (by omega), pk3_lo (by omega) (by omega) (by omega)]
  unfold pyA
  rw [mvL_lo _ _ _ _ (by omega)]
  simp only [va_up]
  rw [if_neg (by omega)]
theorem py_0 {Tx M Sd : Nat → Nat} {len p : Nat} (hs : a0 Tx len p < 4) (k : NK (pyA Tx len M Sd p)) : pyM Tx len M Sd p 0 = M 0 := by
  unfold pyM
  simp only [va_up]
  rw [if_neg (by omega), gnL_lo _ _ _ _ (by omega)]
  exact py_lo hs k (Or.inl rfl)
theorem py_1 {Tx M Sd : Nat → Nat} {len p : Nat} (hs : a0 Tx len p < 4) (k : NK (pyA Tx len M Sd p)) : pyM Tx len M Sd p 1 = M 1 + tV Tx len p := by
  unfold pyM
  simp only [va_up]
  rw [if_pos trivial, py_lo hs k (Or.inr rfl)]
theorem MI_py {Tx M Sd : Nat → Nat} {len p B : Nat} (h : MI M B) (hs : a0 Tx len p < 4) (hf : fV Tx len p ≤ M 0) (hq : qV Tx len p ≤ 1000) (ht : M 1 + tV Tx len p ≤ 100000) : MI (pyA Tx len M Sd p) B ∧ MI (pyB Tx len M Sd p) (B + 2000) ∧ MI (pyM Tx len M Sd p) (B + 2000) := by
  have h1 : MI (pyA Tx len M Sd p) B := MI_ps h hs hf
  have h2 : MI (pyB Tx len M Sd p) (B + 2000) := MI_pk h1 hs hq
  refine ⟨h1, h2, MI_gn h2 ?_⟩
  rw [py_lo hs h1.1 (Or.inr rfl)]
  exact ht
