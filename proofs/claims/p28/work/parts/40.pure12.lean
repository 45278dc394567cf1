/-! ===== a pluck of the reference ===== -/
def NK (M : Nat → Nat) : Prop := M 0 ≤ 12 ∧ (∀ i, i < 12 → mP M i ≤ 2400) ∧ (∀ i, i < 12 → mH M i ≤ 2000) ∧ (∀ i, i < 4 → mPr M i ≤ M 0)
theorem NK_of {M N : Nat → Nat} (h : NK M) (e : ∀ i, i = 0 ∨ (9 ≤ i ∧ i < 45) ∨ i = 46 ∨ i = 50 ∨ i = 54 ∨ i = 58 → N i = M i) : NK N := by
  obtain ⟨h1, h2, h3, h4⟩ := h
  refine ⟨by rw [e 0 (by omega)]; exact h1, fun i hi => ?_, fun i hi => ?_, fun i hi => ?_⟩
  · unfold mP; rw [e _ (by omega)]; exact h2 i hi
  · unfold mH; rw [e _ (by omega)]; exact h3 i hi
  · unfold mPr; rw [e _ (by omega), e 0 (by omega)]; exact h4 i hi
def pk1 (M : Nat → Nat) (s y q : Nat) : Nat → Nat := pwL M s (y - mSt M s) (2520 - mSt M s) q 12
def pk2 (M : Nat → Nat) (s y q : Nat) : Nat → Nat := va_up (pk1 M s y q) (45 + 4 * s + 3) (pk1 M s y q (45 + 4 * s + 3) + 1)
def pk3 (M : Nat → Nat) (s y q : Nat) : Nat → Nat := ntM (pk2 M s y q) s (pk2 M s y q (45 + 4 * s + 1))
def pk4 (M : Nat → Nat) (s y q : Nat) : Nat → Nat := wrA (pk3 M s y q) (mSo (pk3 M s y q) s) q
def pk5 (M : Nat → Nat) (s y q : Nat) : Nat → Nat := if pk3 M s y q (45 + 4 * s + 1) = mSo (pk3 M s y q) s then pk4 M s y q else wrA (pk4 M s y q) (pk3 M s y q (45 + 4 * s + 1)) q
def pk6 (M Sd : Nat → Nat) (s y q : Nat) : Nat → Nat := if mSo (pk3 M s y q) s = 0 then pk3 M s y q else mvL (pk5 M s y q) (sdL (pk3 M s y q) Sd 4) 4
def pkS (M Sd : Nat → Nat) (s y q : Nat) : Nat → Nat := if mSo (pk3 M s y q) s = 0 then Sd else sdL (pk3 M s y q) Sd 4
theorem pk1_lo {M : Nat → Nat} {s y q i : Nat} (h : i < 61) : pk1 M s y q i = M i := by unfold pk1; simp only [pwL]; rw [if_neg (by omega)]
theorem pk1_hi {M : Nat → Nat} {s y q i : Nat} (hs : s < 4) (h : 109 ≤ i) : pk1 M s y q i = M i := by unfold pk1; simp only [pwL]; rw [if_neg (by omega)]
theorem pk2_lo {M : Nat → Nat} {s y q i : Nat} (h : i < 61) (h2 : i ≠ 45 + 4 * s + 3) : pk2 M s y q i = M i := by unfold pk2; simp only [va_up]; rw [if_neg h2]; exact pk1_lo h
theorem pk2_hi {M : Nat → Nat} {s y q i : Nat} (hs : s < 4) (h : 109 ≤ i) : pk2 M s y q i = M i := by unfold pk2; simp only [va_up]; rw [if_neg (by omega)]; exact pk1_hi hs h
theorem ntM_lo {M : Nat → Nat} {s f i : Nat} (h : i < 109) (h3 : i ≠ 3) : ntM M s f i = M i := by
  unfold ntM ntU
  split <;> simp only [va_up]
  · rw [if_neg (by omega), if_neg (by omega), if_neg (by omega), if_neg (by omega), if_neg (by omega)]
  · rw [if_neg (by omega)]
theorem pk3_lo {M : Nat → Nat} {s y q i : Nat} (h : i < 61) (h2 : i ≠ 45 + 4 * s + 3) (h3 : i ≠ 3) : pk3 M s y q i = M i := by
  unfold pk3
  rw [ntM_lo (by omega) h3]
  exact pk2_lo h h2
theorem ntF_c {M N : Nat → Nat} {s f : Nat} (e : ∀ i, 109 ≤ i → N i = M i) : ∀ j k, ntF N s f j k = ntF M s f j k
  | 0, _ => rfl
  | j + 1, k => by
    simp only [ntF]
    rw [e (109 + 3 * k) (by omega), e (109 + 3 * k + 1) (by omega), ntF_c e j (k + 1)]
theorem NK3 {M : Nat → Nat} {s y q : Nat} (hs : s < 4) (h : NK M) : NK (pk3 M s y q) := NK_of h (fun i hi => pk3_lo (by omega) (by omega) (by omega))
theorem wrA_ne {M : Nat → Nat} {f q i : Nat} (h1 : i ≠ 9 + 3 * (f - 1) + 2) (h2 : i ≠ 9 + 3 * (f - 1) + 1) (h3 : i ≠ 2) : wrA M f q i = M i := by
  unfold wrA wrM
  rw [if_neg h1, if_neg h2, if_neg h3]
theorem wrA_h {M : Nat → Nat} {f q i : Nat} : mH (wrA M f q) i ≤ mH M i := by
  unfold mH wrA wrM
  rw [if_neg (by omega)]
  split
  · rename_i e; rw [← e]; exact Nat.sub_le _ _
  · rw [if_neg (by omega)]; exact Nat.le_refl _
theorem wrA_w {M : Nat → Nat} {f q i : Nat} : mW (wrA M f q) i ≤ mW M i + q := by
  unfold mW wrA wrM
  split
  · rename_i e; rw [← e]; exact Nat.sub_le _ _
  · rw [if_neg (by omega), if_neg (by omega)]; omega
theorem NKw {M : Nat → Nat} {f q : Nat} (hf : f ≤ 12) (h : NK M) : NK (wrA M f q) := by
  obtain ⟨h1, h2, h3, h4⟩ := h
  have e0 : wrA M f q 0 = M 0 := wrA_ne (by omega) (by omega) (by omega)
  refine ⟨by rw [e0]; exact h1, fun i hi => ?_, fun i hi => Nat.le_trans wrA_h (h3 i hi), fun i hi => ?_⟩
  · unfold mP; rw [wrA_ne (by omega) (by omega) (by omega)]; exact h2 i hi
  · rw [e0]
    unfold mPr
    rw [wrA_ne (by omega) (by omega) (by omega)]
    exact h4 i hi
theorem NK5 {M : Nat → Nat} {s y q : Nat} (hs : s < 4) (h : NK M) : NK (pk5 M s y q) := by
  have h3 := NK3 (y := y) (q := q) hs h
  have a1 : mSo (pk3 M s y q) s ≤ 12 := Nat.le_trans (mSo_le h3.2.2.2 hs) h3.1
  have a2 : pk3 M s y q (45 + 4 * s + 1) ≤ 12 := Nat.le_trans (h3.2.2.2 s hs) h3.1
  have h4 : NK (pk4 M s y q) := NKw a1 h3
  unfold pk5
  split
  · exact h4
  · exact NKw a2 h4
theorem sd_le {M Sd : Nat → Nat} (h : NK M) : ∀ i, i < 4 → sdL M Sd 4 i ≤ 2400 := fun i hi => by
  simp only [sdL]
  rw [if_pos hi]
  exact mSt_le h.1 h.2.1 h.2.2.2 hi
theorem at_pos {M : Nat → Nat} {s : Nat} (h : NK M) (hs : s < 4) (h0 : 0 < mSo M s) : 1 ≤ M (45 + 4 * s + 1) := by
  rcases Nat.eq_zero_or_pos (M (45 + 4 * s + 1)) with q | q
  · unfold mSo srcN at h0
    rw [if_pos (show mPr M s = 0 from q)] at h0
    omega
  · exact q
