/-! ===== the component's state beside the reference's row ===== -/
theorem atN_c {P P' : Nat → Nat} {n f : Nat} (h : ∀ i, i < n → P i = P' i) (hf : f ≤ n) : atN P f = atN P' f := by
  unfold atN
  split
  · rfl
  · exact h _ (by omega)
theorem srcL_c {P P' Hh Hh' : Nat → Nat} {n f0 : Nat} (hp : ∀ i, i < n → P i = P' i) (hh : ∀ i, i < n → Hh i = Hh' i) (h0 : 1 ≤ f0) : ∀ k, f0 + k ≤ n → srcL P Hh f0 k = srcL P' Hh' f0 k
  | 0, _ => rfl
  | k + 1, h => by
    have ih := srcL_c hp hh h0 k (by omega)
    simp only [srcL]
    rw [ih, hh (f0 + k) (by omega), hh (f0 - 1) (by omega), hp (f0 - 1) (by omega), hp (f0 + k) (by omega)]
theorem srcN_c {P P' Hh Hh' : Nat → Nat} {n f : Nat} (hp : ∀ i, i < n → P i = P' i) (hh : ∀ i, i < n → Hh i = Hh' i) (hf : f ≤ n) : srcN P Hh n f = srcN P' Hh' n f := by
  unfold srcN
  split
  · rfl
  · rw [srcL_c hp hh (by omega) (n - f) (by omega)]
/-- the notes -/
def SN (Or Ti M : Nat → Nat) : Prop := (∀ k, k < M 3 → Or k = M (109 + 3 * k) * 13 + M (109 + 3 * k + 1) ∧ Ti (Or k) = M (109 + 3 * k + 2) ∧ 1 ≤ M (109 + 3 * k + 2)) ∧ (∀ i, i < 52 → (∀ k, k < M 3 → Or k ≠ i) → Ti i = 0) ∧ (∀ i, i < 52 → Or i < 52)
def SB (X : Nat → Nat → Nat) (M : Nat → Nat) : Prop := (X 13 0 = M 0 ∧ X 13 1 = M 3 ∧ X 13 2 = M 1 ∧ X 13 3 = M 2) ∧ (∀ i, i < 5 → X 12 i = M (4 + i)) ∧ (∀ i, i < 12 → X 0 i = mP M i ∧ X 1 i = mH M i ∧ X 2 i = mW M i) ∧ (∀ i, i < 4 → X 3 i = mT M i ∧ X 4 i = mPr M i ∧ X 5 i = mFi M i ∧ X 6 i = mPl M i) ∧ (∀ i, i < 48 → X 9 i = mAm M i) ∧ SN (X 10) (X 11) M
def SR (X : Nat → Nat → Nat) (M : Nat → Nat) : Prop := SB X M ∧ ∀ i, i < 4 → X 7 i = mSo M i ∧ X 8 i = mSt M i
theorem SN_c {Or Ti M N : Nat → Nat} (h3 : M 3 ≤ 52) (e3 : N 3 = M 3) (e : ∀ i, 109 ≤ i → i < 265 → N i = M i) (h : SN Or Ti M) : SN Or Ti N := by
  obtain ⟨h1, h2, h4⟩ := h
  refine ⟨fun k hk => ?_, fun i hi q => h2 i hi (fun k hk => q k (by omega)), h4⟩
  rw [e3] at hk
  rw [e _ (by omega) (by omega), e _ (by omega) (by omega), e _ (by omega) (by omega)]
  exact h1 k hk
theorem mSo_c {M N : Nat → Nat} (k : NK M) (e : ∀ i, i < 61 → N i = M i) {s : Nat} (hs : s < 4) : mSo N s = mSo M s := by
  unfold mSo
  have ep : mPr N s = mPr M s := by unfold mPr; exact e _ (by omega)
  rw [ep, e 0 (by omega)]
  exact srcN_c (fun i hi => by have := k.1; unfold mP; exact e _ (by omega)) (fun i hi => by have := k.1; unfold mH; exact e _ (by omega)) (k.2.2.2 s hs)
theorem mSt_c {M N : Nat → Nat} (k : NK M) (e : ∀ i, i < 61 → N i = M i) {s : Nat} (hs : s < 4) : mSt N s = mSt M s := mSt_lo e hs k.1 k.2.2.2
theorem SB_so {X : Nat → Nat → Nat} {M : Nat → Nat} (h : SB X M) (k : NK M) {i : Nat} (hi : i < 4) : srcN (X 0) (X 1) (X 13 0) (X 4 i) = mSo M i ∧ atN (X 0) (srcN (X 0) (X 1) (X 13 0) (X 4 i)) = mSt M i := by
  obtain ⟨⟨h0, -⟩, -, h2, h3, -⟩ := h
  have hn := k.1
  have hp := k.2.2.2 i hi
  have e1 : srcN (X 0) (X 1) (X 13 0) (X 4 i) = mSo M i := by
    unfold mSo
    rw [h0, (h3 i hi).2.1]
    exact srcN_c (fun j hj => (h2 j (by omega)).1) (fun j hj => (h2 j (by omega)).2.1) hp
  refine ⟨e1, ?_⟩
  rw [e1]
  exact atN_c (n := M 0) (fun j hj => (h2 j (by omega)).1) (mSo_le k.2.2.2 hi)
/-- a row like another, but for what is below -/
theorem SB_c {X : Nat → Nat → Nat} {M N : Nat → Nat} (h3 : M 3 ≤ 52) (e : ∀ i, i < 265 → N i = M i) (h : SB X M) : SB X N := by
  obtain ⟨h0, h1, h2, h4, h5, h6⟩ := h
  refine ⟨?_, fun i hi => ?_, fun i hi => ?_, fun i hi => ?_, fun i hi => ?_, SN_c h3 (e 3 (by omega)) (fun i _ hi => e i hi) h6⟩
  · rw [e 0 (by omega), e 1 (by omega), e 2 (by omega), e 3 (by omega)]; exact h0
  · rw [e _ (by omega)]; exact h1 i hi
  · unfold mP mH mW; rw [e _ (by omega), e _ (by omega), e _ (by omega)]; exact h2 i hi
  · unfold mT mPr mFi mPl; rw [e _ (by omega), e _ (by omega), e _ (by omega), e _ (by omega)]; exact h4 i hi
  · unfold mAm; rw [e _ (by omega)]; exact h5 i hi
theorem SR_c {X : Nat → Nat → Nat} {M N : Nat → Nat} (k : NK M) (h3 : M 3 ≤ 52) (e : ∀ i, i < 265 → N i = M i) (h : SR X M) : SR X N := ⟨SB_c h3 e h.1, fun i hi => by rw [mSo_c k (fun i hi => e i (by omega)) hi, mSt_c k (fun i hi => e i (by omega)) hi]; exact h.2 i hi⟩
/-- what settles: the sounding frets, the starts, the amplitudes of what moved -/
def seX (Y : Nat → Nat → Nat) : Nat → Nat → Nat := mkX (Y 0) (Y 1) (Y 2) (Y 3) (Y 4) (Y 5) (Y 6) (soL (Y 0) (Y 1) (Y 13 0) (Y 4) (Y 7) 4) (stL (Y 0) (Y 1) (Y 13 0) (Y 4) (Y 8) 4) (amL (Y 0) (Y 1) (Y 13 0) (Y 4) (Y 8) (Y 9) 4) (Y 10) (Y 11) (Y 12) (Y 13 0) (Y 13 1) (Y 13 2) (Y 13 3)
theorem SR_se {Y : Nat → Nat → Nat} {M Sd : Nat → Nat} (h : SB Y M) (k : NK M) (h3 : M 3 ≤ 52) (hs : ∀ i, i < 4 → Y 8 i = Sd i) : SR (seX Y) (mvL M Sd 4) := by
  have elo : ∀ i, i < 61 → mvL M Sd 4 i = M i := fun i hi => mvL_lo _ _ _ _ hi
  have ehi : ∀ i, 109 ≤ i → mvL M Sd 4 i = M i := fun i hi => mvL_hi _ _ _ hi
  have hso := fun i (hi : i < 4) => SB_so h k hi
  obtain ⟨h0, h1, h2, h4, h5, h6⟩ := h
  refine ⟨⟨?_, fun i hi => ?_, fun i hi => ?_, fun i hi => ?_, fun i hi => ?_, ?_⟩, fun i hi => ⟨?_, ?_⟩⟩
  · rw [elo 0 (by omega), elo 1 (by omega), elo 2 (by omega), elo 3 (by omega)]; exact h0
  · rw [elo _ (by omega)]; exact h1 i hi
  · unfold mP mH mW; rw [elo _ (by omega), elo _ (by omega), elo _ (by omega)]; exact h2 i hi
  · unfold mT mPr mFi mPl; rw [elo _ (by omega), elo _ (by omega), elo _ (by omega), elo _ (by omega)]; exact h4 i hi
  · show amL (Y 0) (Y 1) (Y 13 0) (Y 4) (Y 8) (Y 9) 4 i = mvL M Sd 4 (61 + i)
    have e1 := (hso (i / 12) (by omega)).2
    have e2 := hs (i / 12) (by omega)
    have e3 := h5 i hi
    unfold mAm at e3
    simp only [amL, mvL]
    rw [e1, e2, show (61 + i - 61) / 12 = i / 12 by rw [Nat.add_sub_cancel_left]]
    by_cases c : mSt M (i / 12) = Sd (i / 12)
    · rw [if_neg (fun q => q.2 c.symm), if_neg (fun q => q.2.2 c)]; exact e3
    · rw [if_pos ⟨by omega, fun q => c q.symm⟩, if_pos ⟨by omega, by omega, c⟩]
  · exact SN_c h3 (elo 3 (by omega)) (fun i hi _ => ehi i hi) h6
  · show soL (Y 0) (Y 1) (Y 13 0) (Y 4) (Y 7) 4 i = mSo (mvL M Sd 4) i
    rw [mSo_c k elo hi]
    simp only [soL]
    rw [if_pos hi]
    exact (hso i hi).1
  · show stL (Y 0) (Y 1) (Y 13 0) (Y 4) (Y 8) 4 i = mSt (mvL M Sd 4) i
    rw [mSt_c k elo hi]
    simp only [stL]
    rw [if_pos hi]
    exact (hso i hi).2
theorem mvL_id {M Sd : Nat → Nat} (h : ∀ i, i < 4 → Sd i = mSt M i) : mvL M Sd 4 = M := by
  funext i
  simp only [mvL]
  by_cases c : 61 ≤ i ∧ i < 61 + 12 * 4 ∧ mSt M ((i - 61) / 12) ≠ Sd ((i - 61) / 12)
  · exact absurd (h ((i - 61) / 12) (by omega)).symm c.2.2
  · rw [if_neg c]
theorem sdL_at (M Sd : Nat → Nat) {i : Nat} (h : i < 4) : sdL M Sd 4 i = mSt M i := by simp only [sdL]; rw [if_pos h]
/-- small numbers -/
theorem SR_XB {X : Nat → Nat → Nat} {M : Nat → Nat} {B : Nat} (h : SR X M) (m : MI M B) (hB : B ≤ 900000000) : XB X := by
  obtain ⟨⟨⟨a0, a3, a1, a2⟩, h1, h2, h4, h5, r1, r2, r3⟩, h7⟩ := h
  obtain ⟨⟨k0, k1, k2, k3⟩, ⟨b1, b2, b3⟩, ⟨s0, s1, s2, s3, s4⟩, t1, w1, n1, n2, -, n4⟩ := m
  refine ⟨by omega, fun i hi => by rw [(h2 i hi).1]; exact k1 i hi, fun i hi => by rw [(h2 i hi).2.1]; exact k2 i hi, fun i hi => by rw [(h2 i hi).2.2]; exact Nat.le_trans (w1 i hi) hB, fun i hi => by rw [(h4 i hi).1]; exact b2 i hi, fun i hi => by rw [(h4 i hi).2.1, a0]; exact k3 i hi, fun i hi => by rw [(h4 i hi).2.2.1]; exact b1 i hi, fun i hi => by rw [(h7 i hi).1, a0]; exact mSo_le k3 hi, fun i hi => by rw [(h7 i hi).2]; exact mSt_le k0 k1 k3 hi, fun i hi => by rw [h5 i hi]; exact b3 i hi, r3, fun i hi => ?_, by rw [h1 0 (by omega)]; exact s0, by rw [h1 1 (by omega)]; exact s1, by rw [h1 2 (by omega)]; exact s2, by rw [h1 3 (by omega)]; exact s3, by rw [h1 4 (by omega)]; exact s4, by omega, by omega⟩
  by_cases c : ∃ k, k < M 3 ∧ X 10 k = i
  · obtain ⟨k, hk, e⟩ := c
    rw [← e, (r1 k hk).2.1]
    exact Nat.le_trans (n4 (3 * k + 2) (by omega)) (by omega)
  · rw [r2 i hi (fun k hk e => c ⟨k, hk, e⟩)]
    exact Nat.zero_le _
/-! press -/
theorem SR_pr {X : Nat → Nat → Nat} {M Sd : Nat → Nat} {B s f : Nat} (h : SR X M) (m : MI M B) (hs : s < 4) (hf : f ≤ M 0) : SR (prX X s f) (mvL (va_up M (45 + 4 * s + 1) f) (sdL M Sd 4) 4) := by
  have e : ∀ i, i ≠ 45 + 4 * s + 1 → va_up M (45 + 4 * s + 1) f i = M i := fun i q => by simp only [va_up]; rw [if_neg q]
  have k1 : NK (va_up M (45 + 4 * s + 1) f) := pr_up m.1.1 m.1.2.1 m.1.2.2.1 m.1.2.2.2 hs hf
  refine SR_se (Y := mkX (X 0) (X 1) (X 2) (X 3) (va_up (X 4) s f) (X 5) (X 6) (X 7) (X 8) (X 9) (X 10) (X 11) (X 12) (X 13 0) (X 13 1) (X 13 2) (X 13 3)) ?_ k1 (by rw [e 3 (by omega)]; exact m.2.2.2.2.2.1) (fun i hi => by rw [sdL_at M Sd hi]; exact (h.2 i hi).2)
  obtain ⟨⟨a, h1, h2, h4, h5, h6⟩, h7⟩ := h
  refine ⟨?_, fun i hi => ?_, fun i hi => ?_, fun i hi => ?_, fun i hi => ?_, ?_⟩
  · rw [e 0 (by omega), e 1 (by omega), e 2 (by omega), e 3 (by omega)]; exact a
  · rw [e _ (by omega)]; exact h1 i hi
  · unfold mP mH mW; rw [e _ (by omega), e _ (by omega), e _ (by omega)]; exact h2 i hi
  · obtain ⟨q1, q2, q3, q4⟩ := h4 i hi
    refine ⟨?_, ?_, ?_, ?_⟩
    · unfold mT; rw [e _ (by omega)]; exact q1
    · show va_up (X 4) s f i = va_up M (45 + 4 * s + 1) f (45 + 4 * i + 1)
      simp only [va_up]
      by_cases c : i = s
      · rw [if_pos c, if_pos (by omega)]
      · rw [if_neg c, if_neg (by omega)]; exact q2
    · unfold mFi; rw [e _ (by omega)]; exact q3
    · unfold mPl; rw [e _ (by omega)]; exact q4
  · unfold mAm; rw [e _ (by omega)]; exact h5 i hi
  · exact SN_c m.2.2.2.2.2.1 (e 3 (by omega)) (fun i hi _ => e i (by omega)) h6
/-! run -/
theorem dist_z {n y ln : Nat} (h : 0 < ln) : dist n y ln = 0 ↔ n * y % ln = 0 := by
  have := Nat.mod_lt (n * y) h
  unfold dist
  omega
theorem dmp_e {X : Nat → Nat → Nat} {M : Nat → Nat} {B s n : Nat} (h : SR X M) (m : MI M B) (hs : s < 4) : dmp (X 5) (X 8) s n = mdm M s n := by
  have e1 := (h.2 s hs).2
  have e2 := (h.1.2.2.2.1 s hs).2.2.1
  have hb := mSt_le m.1.1 m.1.2.1 m.1.2.2.2 hs
  unfold dmp mdm
  rw [e1, e2]
  by_cases c : mSt M s < mFi M s ∧ ¬ n * (mFi M s - mSt M s) % (2520 - mSt M s) = 0
  · rw [if_pos c, if_pos ⟨c.1, fun q => c.2 ((dist_z (by omega)).mp q)⟩]
  · rw [if_neg c, if_neg (fun q => c ⟨q.1, fun q2 => q.2 ((dist_z (by omega)).mpr q2)⟩)]
theorem SR_lg {X : Nat → Nat → Nat} {M : Nat → Nat} {B t : Nat} (h : SR X M) (m : MI M B) : SR (lgX X t) (va_up (gnL M t 48) 1 (M 1 + t)) := by
  have e : ∀ i, i ≠ 1 → (i < 61 ∨ 109 ≤ i) → va_up (gnL M t 48) 1 (M 1 + t) i = M i := fun i q q2 => by
    simp only [va_up, gnL]; rw [if_neg q, if_neg (by omega)]
  have hd := fun s n (hs : s < 4) => dmp_e (n := n) h m hs
  have k := m.1
  obtain ⟨⟨⟨a0, a3, a1, a2⟩, h1, h2, h4, h5, h6⟩, h7⟩ := h
  have eSo : ∀ s, s < 4 → mSo (va_up (gnL M t 48) 1 (M 1 + t)) s = mSo M s := fun s hs => by
    unfold mSo
    rw [show mPr (va_up (gnL M t 48) 1 (M 1 + t)) s = mPr M s from e _ (by omega) (by omega), e 0 (by omega) (by omega)]
    exact srcN_c (fun i hi => by have := k.1; exact e _ (by omega) (by omega)) (fun i hi => by have := k.1; exact e _ (by omega) (by omega)) (k.2.2.2 s hs)
  refine ⟨⟨⟨?_, ?_, ?_, ?_⟩, fun i hi => ?_, fun i hi => ?_, fun i hi => ?_, fun i hi => ?_, ?_⟩, fun i hi => ⟨?_, ?_⟩⟩
  · rw [e 0 (by omega) (by omega)]; exact a0
  · rw [e 3 (by omega) (by omega)]; exact a3
  · show X 13 2 + t = va_up (gnL M t 48) 1 (M 1 + t) 1
    simp only [va_up]; rw [if_pos trivial, a1]
  · rw [e 2 (by omega) (by omega)]; exact a2
  · rw [e _ (by omega) (by omega)]; exact h1 i hi
  · unfold mP mH mW; rw [e _ (by omega) (by omega), e _ (by omega) (by omega), e _ (by omega) (by omega)]; exact h2 i hi
  · unfold mT mPr mFi mPl; rw [e _ (by omega) (by omega), e _ (by omega) (by omega), e _ (by omega) (by omega), e _ (by omega) (by omega)]; exact h4 i hi
  · show lgL (X 5) (X 8) (X 12) (X 9) t 48 i = va_up (gnL M t 48) 1 (M 1 + t) (61 + i)
    have e5 := h5 i hi
    unfold mAm at e5
    simp only [lgL, va_up, gnL]
    rw [if_pos hi, if_neg (by omega), if_pos (by omega)]
    unfold lgV gnV
    rw [h1 0 (by omega), h1 1 (by omega), h1 2 (by omega), e5, Nat.add_sub_cancel_left, hd _ _ (by omega)]
  · exact SN_c m.2.2.2.2.2.1 (e 3 (by omega) (by omega)) (fun i hi _ => e i (by omega) (by omega)) h6
  · rw [eSo i hi]; exact (h7 i hi).1
  · show X 8 i = atN (mP (va_up (gnL M t 48) 1 (M 1 + t))) (mSo (va_up (gnL M t 48) 1 (M 1 + t)) i)
    rw [eSo i hi]
    refine ((h7 i hi).2).trans (atN_c (n := M 0) (fun j hj => ?_) (mSo_le k.2.2.2 hi))
    have := k.1
    exact (e _ (by omega) (by omega)).symm
