theorem MI_fr {M Sd : Nat → Nat} {B y hh : Nat} (h : MI M B) (hn : M 0 < 12) (hy : y ≤ 2400) (hv : hh ≤ 2000) : MI (mvL (frM M y hh) (sdL M Sd 4) 4) B := by
  have hi := h.2.2.2.2
  have hkl := insI_le (mP M) y (M 0)
  have e0 : ∀ i, (1 ≤ i ∧ i < 9) ∨ (45 ≤ i ∧ i < 61 ∧ (i - 45) % 4 ≠ 1) ∨ 61 ≤ i → frM M y hh i = M i := fun i a => by
    unfold frM
    simp only [mrM]
    rw [if_neg (by omega)]
    rcases a with a | a | a
    · exact frI_lo a.1 a.2
    · exact frI_pr hkl hn (by omega)
    · exact frI_pr hkl hn (by omega)
  have e : ∀ i, (1 ≤ i ∧ i < 9) ∨ (45 ≤ i ∧ i < 61 ∧ (i - 45) % 4 ≠ 1) → mvL (frM M y hh) (sdL M Sd 4) 4 i = M i := fun i a => by rw [mvL_lo _ _ _ _ (by omega)]; exact e0 i (by omega)
  refine MI_of h (NK_mv (NK_fr hn hy hv h.1)) (fun i hi => ⟨e _ (by omega), e _ (by omega)⟩) (fun i a b => e i (by omega)) (by rw [e 1 (by omega)]; exact h.2.2.2.1) (mvL_am (fun i hi2 => ?_)) (fun i hi2 => ?_) (NT_of hi.2 (Nat.le_refl _) (e 3 (by omega)) (fun i q => ?_))
  · have := h.2.1.2.2 i hi2; unfold mAm at *; rw [e0 _ (by omega)]; exact this
  · unfold mW; rw [mvL_lo _ _ _ _ (by omega), frM_w hn hi2 (by omega)]
    exact insA_le (fun j hj => hi.1 j hj) (by rw [if_neg (by omega), if_neg (by omega)]; exact Nat.zero_le _) i hi2
  · rw [mvL_hi _ _ _ q]; exact e0 _ (by omega)
