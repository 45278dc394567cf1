/-! ===== steps that touch few places ===== -/
/-- a state that settles: nothing moves where starts are as they were -/
theorem seX_r (Y : Nat → Nat → Nat) : ∀ k, k ≠ 7 → k ≠ 8 → k ≠ 9 → k ≤ 12 → seX Y k = Y k := by
  intro k a b c d
  obtain rfl | rfl | rfl | rfl | rfl | rfl | rfl | rfl | rfl | rfl : k = 0 ∨ k = 1 ∨ k = 2 ∨ k = 3 ∨ k = 4 ∨ k = 5 ∨ k = 6 ∨ k = 10 ∨ k = 11 ∨ k = 12 := by omega
  all_goals rfl
/-! tune, touch -/
theorem SR_tu {X : Nat → Nat → Nat} {M : Nat → Nat} {B s w : Nat} (h : SR X M) (m : MI M B) (hs : s < 4) : SR (mkX (X 0) (X 1) (X 2) (va_up (X 3) s w) (X 4) (X 5) (X 6) (X 7) (X 8) (X 9) (X 10) (X 11) (X 12) (X 13 0) (X 13 1) (X 13 2) (X 13 3)) (va_up M (45 + 4 * s + 0) w) := by
  have e : ∀ i, i ≠ 45 + 4 * s + 0 → va_up M (45 + 4 * s + 0) w i = M i := fun i q => by simp only [va_up]; rw [if_neg q]
  have k := m.1
  obtain ⟨⟨a, h1, h2, h4, h5, h6⟩, h7⟩ := h
  have eSo : ∀ i, i < 4 → mSo (va_up M (45 + 4 * s + 0) w) i = mSo M i ∧ mSt (va_up M (45 + 4 * s + 0) w) i = mSt M i := fun i hi => by
    have q1 : mSo (va_up M (45 + 4 * s + 0) w) i = mSo M i := by
      unfold mSo
      rw [show mPr (va_up M (45 + 4 * s + 0) w) i = mPr M i from e _ (by omega), e 0 (by omega)]
      exact srcN_c (fun j hj => by have := k.1; exact e _ (by omega)) (fun j hj => by have := k.1; exact e _ (by omega)) (k.2.2.2 i hi)
    refine ⟨q1, ?_⟩
    unfold mSt
    rw [q1]
    exact atN_c (n := M 0) (fun j hj => by have := k.1; exact e _ (by omega)) (mSo_le k.2.2.2 hi)
  refine ⟨⟨?_, fun i hi => ?_, fun i hi => ?_, fun i hi => ?_, fun i hi => ?_, ?_⟩, fun i hi => ?_⟩
  · rw [e 0 (by omega), e 1 (by omega), e 2 (by omega), e 3 (by omega)]; exact a
  · rw [e _ (by omega)]; exact h1 i hi
  · unfold mP mH mW; rw [e _ (by omega), e _ (by omega), e _ (by omega)]; exact h2 i hi
  · obtain ⟨q1, q2, q3, q4⟩ := h4 i hi
    refine ⟨?_, ?_, ?_, ?_⟩
    · show va_up (X 3) s w i = va_up M (45 + 4 * s + 0) w (45 + 4 * i + 0)
      simp only [va_up]
      by_cases c : i = s
      · rw [if_pos c, if_pos (by omega)]
      · rw [if_neg c, if_neg (by omega)]; exact q1
    · unfold mPr; rw [e _ (by omega)]; exact q2
    · unfold mFi; rw [e _ (by omega)]; exact q3
    · unfold mPl; rw [e _ (by omega)]; exact q4
  · unfold mAm; rw [e _ (by omega)]; exact h5 i hi
  · exact SN_c m.2.2.2.2.2.1 (e 3 (by omega)) (fun i hi _ => e i (by omega)) h6
  · rw [(eSo i hi).1, (eSo i hi).2]; exact h7 i hi
theorem SR_to {X : Nat → Nat → Nat} {M : Nat → Nat} {B s w : Nat} (h : SR X M) (m : MI M B) (hs : s < 4) : SR (mkX (X 0) (X 1) (X 2) (X 3) (X 4) (va_up (X 5) s w) (X 6) (X 7) (X 8) (X 9) (X 10) (X 11) (X 12) (X 13 0) (X 13 1) (X 13 2) (X 13 3)) (va_up M (45 + 4 * s + 2) w) := by
  have e : ∀ i, i ≠ 45 + 4 * s + 2 → va_up M (45 + 4 * s + 2) w i = M i := fun i q => by simp only [va_up]; rw [if_neg q]
  have k := m.1
  obtain ⟨⟨a, h1, h2, h4, h5, h6⟩, h7⟩ := h
  have eSo : ∀ i, i < 4 → mSo (va_up M (45 + 4 * s + 2) w) i = mSo M i ∧ mSt (va_up M (45 + 4 * s + 2) w) i = mSt M i := fun i hi => by
    have q1 : mSo (va_up M (45 + 4 * s + 2) w) i = mSo M i := by
      unfold mSo
      rw [show mPr (va_up M (45 + 4 * s + 2) w) i = mPr M i from e _ (by omega), e 0 (by omega)]
      exact srcN_c (fun j hj => by have := k.1; exact e _ (by omega)) (fun j hj => by have := k.1; exact e _ (by omega)) (k.2.2.2 i hi)
    refine ⟨q1, ?_⟩
    unfold mSt
    rw [q1]
    exact atN_c (n := M 0) (fun j hj => by have := k.1; exact e _ (by omega)) (mSo_le k.2.2.2 hi)
  refine ⟨⟨?_, fun i hi => ?_, fun i hi => ?_, fun i hi => ?_, fun i hi => ?_, ?_⟩, fun i hi => ?_⟩
  · rw [e 0 (by omega), e 1 (by omega), e 2 (by omega), e 3 (by omega)]; exact a
  · rw [e _ (by omega)]; exact h1 i hi
  · unfold mP mH mW; rw [e _ (by omega), e _ (by omega), e _ (by omega)]; exact h2 i hi
  · obtain ⟨q1, q2, q3, q4⟩ := h4 i hi
    refine ⟨?_, ?_, ?_, ?_⟩
    · unfold mT; rw [e _ (by omega)]; exact q1
    · unfold mPr; rw [e _ (by omega)]; exact q2
    · show va_up (X 5) s w i = va_up M (45 + 4 * s + 2) w (45 + 4 * i + 2)
      simp only [va_up]
      by_cases c : i = s
      · rw [if_pos c, if_pos (by omega)]
      · rw [if_neg c, if_neg (by omega)]; exact q3
    · unfold mPl; rw [e _ (by omega)]; exact q4
  · unfold mAm; rw [e _ (by omega)]; exact h5 i hi
  · exact SN_c m.2.2.2.2.2.1 (e 3 (by omega)) (fun i hi _ => e i (by omega)) h6
  · rw [(eSo i hi).1, (eSo i hi).2]; exact h7 i hi
/-! damp -/
theorem SR_da {X : Nat → Nat → Nat} {M : Nat → Nat} {B s : Nat} (h : SR X M) (m : MI M B) (hs : s < 4) : SR (mkX (X 0) (X 1) (X 2) (X 3) (X 4) (X 5) (X 6) (X 7) (X 8) (qzL (X 9) s 12) (X 10) (X 11) (X 12) (X 13 0) (X 13 1) (X 13 2) (X 13 3)) (mq M s 12) := by
  have e : ∀ i, i < 61 ∨ 109 ≤ i → mq M s 12 i = M i := fun i q => by simp only [mq]; rw [if_neg (by omega)]
  have k := m.1
  have eS := fun i (hi : i < 4) => mSo_c (N := mq M s 12) k (fun j hj => e j (Or.inl hj)) hi
  have eT := fun i (hi : i < 4) => mSt_c (N := mq M s 12) k (fun j hj => e j (Or.inl hj)) hi
  obtain ⟨⟨a, h1, h2, h4, h5, h6⟩, h7⟩ := h
  refine ⟨⟨?_, fun i hi => ?_, fun i hi => ?_, fun i hi => ?_, fun i hi => ?_, ?_⟩, fun i hi => ?_⟩
  · rw [e 0 (by omega), e 1 (by omega), e 2 (by omega), e 3 (by omega)]; exact a
  · rw [e _ (by omega)]; exact h1 i hi
  · unfold mP mH mW; rw [e _ (by omega), e _ (by omega), e _ (by omega)]; exact h2 i hi
  · unfold mT mPr mFi mPl; rw [e _ (by omega), e _ (by omega), e _ (by omega), e _ (by omega)]; exact h4 i hi
  · show qzL (X 9) s 12 i = mq M s 12 (61 + i)
    have e5 := h5 i hi
    unfold mAm at e5
    simp only [qzL, mq]
    by_cases c : s * 12 ≤ i ∧ i < s * 12 + 12
    · rw [if_pos c, if_pos (by omega)]
    · rw [if_neg c, if_neg (by omega)]; exact e5
  · exact SN_c m.2.2.2.2.2.1 (e 3 (by omega)) (fun i hi _ => e i (by omega)) h6
  · rw [eS i hi, eT i hi]; exact h7 i hi
/-! set -/
theorem SR_st {X : Nat → Nat → Nat} {M : Nat → Nat} {B q w : Nat} (h : SR X M) (m : MI M B) (hq : q < 5) : SR (mkX (X 0) (X 1) (X 2) (X 3) (X 4) (X 5) (X 6) (X 7) (X 8) (X 9) (X 10) (X 11) (va_up (X 12) q w) (X 13 0) (X 13 1) (X 13 2) (X 13 3)) (va_up M (4 + q) w) := by
  have e : ∀ i, i ≠ 4 + q → va_up M (4 + q) w i = M i := fun i q => by simp only [va_up]; rw [if_neg q]
  have k := m.1
  obtain ⟨⟨a, h1, h2, h4, h5, h6⟩, h7⟩ := h
  have eSo : ∀ i, i < 4 → mSo (va_up M (4 + q) w) i = mSo M i ∧ mSt (va_up M (4 + q) w) i = mSt M i := fun i hi => by
    have q1 : mSo (va_up M (4 + q) w) i = mSo M i := by
      unfold mSo
      rw [show mPr (va_up M (4 + q) w) i = mPr M i from e _ (by omega), e 0 (by omega)]
      exact srcN_c (fun j hj => by exact e _ (by omega)) (fun j hj => by exact e _ (by omega)) (k.2.2.2 i hi)
    refine ⟨q1, ?_⟩
    unfold mSt
    rw [q1]
    exact atN_c (n := M 0) (fun j hj => by exact e _ (by omega)) (mSo_le k.2.2.2 hi)
  refine ⟨⟨?_, fun i hi => ?_, fun i hi => ?_, fun i hi => ?_, fun i hi => ?_, ?_⟩, fun i hi => ?_⟩
  · rw [e 0 (by omega), e 1 (by omega), e 2 (by omega), e 3 (by omega)]; exact a
  · show va_up (X 12) q w i = va_up M (4 + q) w (4 + i)
    simp only [va_up]
    by_cases c : i = q
    · rw [if_pos c, if_pos (by omega)]
    · rw [if_neg c, if_neg (by omega)]; exact h1 i hi
  · unfold mP mH mW; rw [e _ (by omega), e _ (by omega), e _ (by omega)]; exact h2 i hi
  · unfold mT mPr mFi mPl; rw [e _ (by omega), e _ (by omega), e _ (by omega), e _ (by omega)]; exact h4 i hi
  · unfold mAm; rw [e _ (by omega)]; exact h5 i hi
  · exact SN_c m.2.2.2.2.2.1 (e 3 (by omega)) (fun i hi _ => e i (by omega)) h6
  · rw [(eSo i hi).1, (eSo i hi).2]; exact h7 i hi
/-! level -/
theorem SR_lv {X : Nat → Nat → Nat} {M Sd : Nat → Nat} {B f v : Nat} (h : SR X M) (m : MI M B) (hf1 : 1 ≤ f) (hf : f ≤ M 0) (hv : v ≤ 2000) : SR (seX (mkX (X 0) (va_up (X 1) (f - 1) v) (va_up (X 2) (f - 1) 0) (X 3) (X 4) (X 5) (X 6) (X 7) (X 8) (X 9) (X 10) (X 11) (X 12) (X 13 0) (X 13 1) (X 13 2) (X 13 3))) (mvL (lvM M f v) (sdL M Sd 4) 4) := by
  have e : ∀ i, i ≠ 9 + 3 * (f - 1) + 1 → i ≠ 9 + 3 * (f - 1) + 2 → lvM M f v i = M i := fun i q q2 => by unfold lvM; simp only [va_up]; rw [if_neg q2, if_neg q]
  have k1 : NK (lvM M f v) := NK_lv (by have := m.1.1; omega) hv m.1
  have hn := m.1.1
  refine SR_se ?_ k1 (by rw [e 3 (by omega) (by omega)]; exact m.2.2.2.2.2.1) (fun i hi => by rw [sdL_at M Sd hi]; exact (h.2 i hi).2)
  obtain ⟨⟨a, h1, h2, h4, h5, h6⟩, h7⟩ := h
  refine ⟨?_, fun i hi => ?_, fun i hi => ?_, fun i hi => ?_, fun i hi => ?_, ?_⟩
  · rw [e 0 (by omega) (by omega), e 1 (by omega) (by omega), e 2 (by omega) (by omega), e 3 (by omega) (by omega)]; exact a
  · rw [e _ (by omega) (by omega)]; exact h1 i hi
  · obtain ⟨q1, q2, q3⟩ := h2 i hi
    refine ⟨?_, ?_, ?_⟩
    · unfold mP; rw [e _ (by omega) (by omega)]; exact q1
    · show va_up (X 1) (f - 1) v i = lvM M f v (9 + 3 * i + 1)
      unfold lvM
      simp only [va_up]
      by_cases c : i = f - 1
      · rw [if_pos c, if_neg (by omega), if_pos (by omega)]
      · rw [if_neg c, if_neg (by omega), if_neg (by omega)]; exact q2
    · show va_up (X 2) (f - 1) 0 i = lvM M f v (9 + 3 * i + 2)
      unfold lvM
      simp only [va_up]
      by_cases c : i = f - 1
      · rw [if_pos c, if_pos (by omega)]
      · rw [if_neg c, if_neg (by omega), if_neg (by omega)]; exact q3
  · unfold mT mPr mFi mPl; rw [e _ (by omega) (by omega), e _ (by omega) (by omega), e _ (by omega) (by omega), e _ (by omega) (by omega)]; exact h4 i hi
  · unfold mAm; rw [e _ (by omega) (by omega)]; exact h5 i hi
  · exact SN_c m.2.2.2.2.2.1 (e 3 (by omega) (by omega)) (fun i hi _ => e i (by omega) (by omega)) h6
