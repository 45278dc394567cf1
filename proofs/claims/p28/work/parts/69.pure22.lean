/-! ===== the reference's invariant, kept by the small calls ===== -/
theorem MI_up {M : Nat → Nat} {B j v : Nat} (h : MI M B) (hj : 45 ≤ j) (hj2 : j < 61) (hc : ((j - 45) % 4 = 0 ∧ v ≤ 100000000) ∨ ((j - 45) % 4 = 2 ∧ v ≤ 2519) ∨ (j - 45) % 4 = 3) : MI (va_up M j v) B := by
  obtain ⟨nk, ⟨a1, a2, a3⟩, ⟨b1, b2, b3, ⟨b4, b5⟩, b6⟩, c1, c2, c3⟩ := h
  have e : ∀ i, i ≠ j → va_up M j v i = M i := fun i q => by simp only [va_up]; rw [if_neg q]
  refine ⟨NK_of nk (fun i q => e i (by omega)), ⟨fun i hi => ?_, fun i hi => ?_, fun i hi => ?_⟩, ⟨?_, ?_, ?_, ⟨?_, ?_⟩, ?_⟩, ?_, fun i hi => ?_, NT_of c3 (Nat.le_refl _) (e 3 (by omega)) (fun i q => e i (by omega))⟩
  · have := a1 i hi; unfold mFi at *; simp only [va_up]; split
    · omega
    · exact this
  · have := a2 i hi; unfold mT at *; simp only [va_up]; split
    · omega
    · exact this
  · have := a3 i hi; unfold mAm at *; rw [e _ (by omega)]; exact this
  · rw [e 4 (by omega)]; exact b1
  · rw [e 5 (by omega)]; exact b2
  · rw [e 6 (by omega)]; exact b3
  · rw [e 7 (by omega)]; exact b4
  · rw [e 7 (by omega)]; exact b5
  · rw [e 8 (by omega)]; exact b6
  · rw [e 1 (by omega)]; exact c1
  · have := c2 i hi; unfold mW at *; rw [e _ (by omega)]; exact this
theorem MI_tu {M : Nat → Nat} {B s w : Nat} (h : MI M B) (hs : s < 4) (hw : w ≤ 100000000) : MI (va_up M (45 + 4 * s + 0) w) B := MI_up h (by omega) (by omega) (Or.inl ⟨by omega, hw⟩)
theorem MI_to {M : Nat → Nat} {B s w : Nat} (h : MI M B) (hs : s < 4) (hw : w ≤ 2519) : MI (va_up M (45 + 4 * s + 2) w) B := MI_up h (by omega) (by omega) (Or.inr (Or.inl ⟨by omega, hw⟩))
theorem MI_da {M : Nat → Nat} {B s : Nat} (h : MI M B) (hs : s < 4) : MI (mq M s 12) B := by
  have hi := h.2.2.2.2
  have e : ∀ i, i < 61 ∨ 109 ≤ i → mq M s 12 i = M i := fun i a => by simp only [mq]; rw [if_neg (by omega)]
  refine MI_of h (NK_of h.1 (fun i q => e i (by omega))) (fun i hi => ⟨e _ (by omega), e _ (by omega)⟩) (fun i a b => e i (by omega)) (by rw [e 1 (by omega)]; exact h.2.2.2.1) (fun i hi2 => ?_) (fun i hi2 => ?_) (NT_of hi.2 (Nat.le_refl _) (e 3 (by omega)) (fun i q => e i (by omega)))
  · have := h.2.1.2.2 i hi2; unfold mAm at *; simp only [mq]; split
    · exact Nat.zero_le _
    · exact this
  · have := hi.1 i hi2; unfold mW at *; rw [e _ (by omega)]; exact this
theorem MI_se {M : Nat → Nat} {B k w : Nat} (h : MI M B) (hk : k < 5) (hw : stO k w) : MI (va_up M (4 + k) w) B := by
  obtain ⟨nk, ⟨a1, a2, a3⟩, ⟨b1, b2, b3, ⟨b4, b5⟩, b6⟩, c1, c2, c3⟩ := h
  unfold stO at hw
  have e : ∀ i, i ≠ 4 + k → va_up M (4 + k) w i = M i := fun i q => by simp only [va_up]; rw [if_neg q]
  refine ⟨NK_of nk (fun i q => e i (by omega)), ⟨fun i hi => ?_, fun i hi => ?_, fun i hi => ?_⟩, ⟨?_, ?_, ?_, ⟨?_, ?_⟩, ?_⟩, ?_, fun i hi => ?_, NT_of c3 (Nat.le_refl _) (e 3 (by omega)) (fun i q => e i (by omega))⟩
  · have := a1 i hi; unfold mFi at *; rw [e _ (by omega)]; exact this
  · have := a2 i hi; unfold mT at *; rw [e _ (by omega)]; exact this
  · have := a3 i hi; unfold mAm at *; rw [e _ (by omega)]; exact this
  · simp only [va_up]; split <;> omega
  · simp only [va_up]; split <;> omega
  · simp only [va_up]; split <;> omega
  · simp only [va_up]; split <;> omega
  · simp only [va_up]; split <;> omega
  · simp only [va_up]; split <;> omega
  · rw [e 1 (by omega)]; exact c1
  · have := c2 i hi; unfold mW at *; rw [e _ (by omega)]; exact this
theorem MI_lv {M Sd : Nat → Nat} {B f hh : Nat} (h : MI M B) (hf1 : 1 ≤ f) (hf : f ≤ 12) (hv : hh ≤ 2000) : MI (mvL (lvM M f hh) (sdL M Sd 4) 4) B := by
  have hi := h.2.2.2.2
  have e : ∀ i, i < 9 ∨ (45 ≤ i ∧ i < 61) → mvL (lvM M f hh) (sdL M Sd 4) 4 i = M i := fun i a => by rw [mvL_lo _ _ _ _ (by omega)]; unfold lvM; simp only [va_up]; rw [if_neg (by omega), if_neg (by omega)]
  refine MI_of h (NK_mv (NK_lv hf hv h.1)) (fun i hi => ⟨e _ (by omega), e _ (by omega)⟩) (fun i a b => e i (by omega)) (by rw [e 1 (by omega)]; exact h.2.2.2.1) (mvL_am (fun i hi2 => ?_)) (fun i hi2 => ?_) (NT_of hi.2 (Nat.le_refl _) (e 3 (by omega)) (fun i q => ?_))
  · have := h.2.1.2.2 i hi2; unfold mAm at *; unfold lvM; simp only [va_up]; rw [if_neg (by omega), if_neg (by omega)]; exact this
  · have := hi.1 i hi2; unfold mW at *; rw [mvL_lo _ _ _ _ (by omega)]; unfold lvM; simp only [va_up]; split
    · exact Nat.zero_le _
    · rw [if_neg (by omega)]; exact this
  · rw [mvL_hi _ _ _ q]; unfold lvM; simp only [va_up]; rw [if_neg (by omega), if_neg (by omega)]
