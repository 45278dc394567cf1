/-! ===== what the reference's row always keeps ===== -/
theorem pig : ∀ (m n : Nat) (f : Nat → Nat), (∀ i, i < n → f i < m) → (∀ i j, i < j → j < n → f i ≠ f j) → n ≤ m
  | 0, n, f, h, _ => by
    rcases Nat.eq_zero_or_pos n with q | q
    · omega
    · have := h 0 q; omega
  | m + 1, 0, f, _, _ => Nat.zero_le _
  | m + 1, n + 1, f, h, inj => by
    have hn := h n (by omega)
    refine Nat.succ_le_succ (pig m n (fun i => if f i = m then f n else f i) (fun i hi => ?_) (fun i j hij hj => ?_))
    · have h1 := h i (by omega)
      have h2 := inj i n hi (by omega)
      show (if f i = m then f n else f i) < m
      split <;> omega
    · have h1 := inj i j hij (by omega)
      have h2 := inj i n (by omega) (by omega)
      have h3 := inj j n hj (by omega)
      show (if f i = m then f n else f i) ≠ (if f j = m then f n else f j)
      split <;> split <;> omega
/-- the notes: different ones, of the strings and frets -/
def NT (M : Nat → Nat) (B : Nat) : Prop := M 3 ≤ 52 ∧ (∀ k, k < M 3 → M (109 + 3 * k) < 4 ∧ M (109 + 3 * k + 1) ≤ 12) ∧ (∀ j k, j < k → k < M 3 → ¬ (M (109 + 3 * j) = M (109 + 3 * k) ∧ M (109 + 3 * j + 1) = M (109 + 3 * k + 1))) ∧ (∀ i, i < 156 → M (109 + i) ≤ B)
theorem ntF_sp {M : Nat → Nat} {s f : Nat} : ∀ j k, k ≤ ntF M s f j k ∧ ntF M s f j k ≤ k + j ∧ (∀ i, k ≤ i → i < ntF M s f j k → ¬ (M (109 + 3 * i) = s ∧ M (109 + 3 * i + 1) = f)) ∧ (ntF M s f j k < k + j → M (109 + 3 * ntF M s f j k) = s ∧ M (109 + 3 * ntF M s f j k + 1) = f)
  | 0, k => ⟨Nat.le_refl _, Nat.le_refl _, fun i h1 h2 => absurd (show i < k from h2) (by omega), fun q => absurd (show k < k + 0 from q) (by omega)⟩
  | j + 1, k => by
    simp only [ntF]
    by_cases c : M (109 + 3 * k) = s ∧ M (109 + 3 * k + 1) = f
    · rw [if_pos c]
      exact ⟨Nat.le_refl _, by omega, fun i h1 h2 => absurd h2 (by omega), fun _ => c⟩
    · rw [if_neg c]
      obtain ⟨h1, h2, h3, h4⟩ := ntF_sp (M := M) (s := s) (f := f) j (k + 1)
      refine ⟨by omega, by omega, fun i q1 q2 => ?_, fun q => h4 (by omega)⟩
      rcases Nat.lt_or_ge k i with z | z
      · exact h3 i z q2
      · obtain rfl : i = k := (by omega)
        exact c
theorem nt_new {M : Nat → Nat} {B s f : Nat} (h : NT M B) (hs : s < 4) (hf : f ≤ 12) (e : ntF M s f (M 3) 0 = M 3) : M 3 < 52 := by
  obtain ⟨h1, h2, h3, -⟩ := h
  obtain ⟨-, -, q, -⟩ := ntF_sp (M := M) (s := s) (f := f) (M 3) 0
  rw [e] at q
  refine pig 52 (M 3 + 1) (fun i => if i < M 3 then M (109 + 3 * i) * 13 + M (109 + 3 * i + 1) else s * 13 + f) (fun i hi => ?_) (fun i j hij hj => ?_)
  · show (if i < M 3 then _ else _) < 52
    split
    · rename_i c; have := h2 i c; omega
    · omega
  · show (if i < M 3 then _ else _) ≠ (if j < M 3 then _ else _)
    rw [if_pos (by omega)]
    have a1 := h2 i (by omega)
    split
    · rename_i c
      have a2 := h2 j c
      have a3 := h3 i j hij c
      omega
    · have a3 := q i (Nat.zero_le _) (by omega)
      omega
theorem NT_of {M N : Nat → Nat} {B C : Nat} (h : NT M B) (hC : B ≤ C) (e3 : N 3 = M 3) (e : ∀ i, 109 ≤ i → N i = M i) : NT N C := by
  obtain ⟨h1, h2, h3, h4⟩ := h
  refine ⟨by rw [e3]; exact h1, fun k hk => ?_, fun j k hj hk => ?_, fun i hi => ?_⟩
  · rw [e3] at hk; rw [e _ (by omega), e _ (by omega)]; exact h2 k hk
  · rw [e3] at hk; rw [e _ (by omega), e _ (by omega), e _ (by omega), e _ (by omega)]; exact h3 j k hj hk
  · rw [e _ (by omega)]; exact Nat.le_trans (h4 i hi) hC
theorem NT_nt {M : Nat → Nat} {B s f : Nat} (h : NT M B) (hs : s < 4) (hf : f ≤ 12) : NT (ntM M s f) (B + 12) := by
  obtain ⟨r1, r2, r3, r4⟩ := ntF_sp (M := M) (s := s) (f := f) (M 3) 0
  have hnw := nt_new h hs hf
  obtain ⟨h1, h2, h3, h4⟩ := h
  unfold ntM
  split
  · rename_i e
    have hlt := hnw e
    rw [e] at r3
    have eN : ∀ i, i ≠ 3 → i ≠ 109 + 3 * M 3 → i ≠ 109 + 3 * M 3 + 1 → i ≠ 109 + 3 * M 3 + 2 → ntU M s f (ntF M s f (M 3) 0) i = M i := fun i a b c d => by
      rw [e]; unfold ntU; simp only [va_up]; rw [if_neg d, if_neg a, if_neg d, if_neg c, if_neg b]
    have e3 : ntU M s f (ntF M s f (M 3) 0) 3 = M 3 + 1 := by rw [e]; unfold ntU; simp only [va_up]; rw [if_neg (by omega), if_pos trivial]
    have ea : ntU M s f (ntF M s f (M 3) 0) (109 + 3 * M 3) = s := by rw [e]; unfold ntU; simp only [va_up]; rw [if_neg (by omega), if_neg (by omega), if_neg (by omega), if_neg (by omega), if_pos trivial]
    have eb : ntU M s f (ntF M s f (M 3) 0) (109 + 3 * M 3 + 1) = f := by rw [e]; unfold ntU; simp only [va_up]; rw [if_neg (by omega), if_neg (by omega), if_neg (by omega), if_pos trivial]
    have ec : ntU M s f (ntF M s f (M 3) 0) (109 + 3 * M 3 + 2) = 1 := by rw [e]; unfold ntU; simp only [va_up]; rw [if_pos trivial]
    refine ⟨by rw [e3]; omega, fun k hk => ?_, fun j k hj hk => ?_, fun i hi => ?_⟩
    · rw [e3] at hk
      rcases Nat.lt_or_ge k (M 3) with q | q
      · rw [eN _ (by omega) (by omega) (by omega) (by omega), eN _ (by omega) (by omega) (by omega) (by omega)]; exact h2 k q
      · obtain rfl : k = M 3 := (by omega)
        rw [ea, eb]; exact ⟨hs, hf⟩
    · rw [e3] at hk
      rw [eN (109 + 3 * j) (by omega) (by omega) (by omega) (by omega), eN (109 + 3 * j + 1) (by omega) (by omega) (by omega) (by omega)]
      rcases Nat.lt_or_ge k (M 3) with q | q
      · rw [eN _ (by omega) (by omega) (by omega) (by omega), eN _ (by omega) (by omega) (by omega) (by omega)]; exact h3 j k hj q
      · obtain rfl : k = M 3 := (by omega)
        rw [ea, eb]; exact r3 j (Nat.zero_le _) hj
    · rcases Nat.lt_trichotomy i (3 * M 3) with q | q | q
      · rw [eN _ (by omega) (by omega) (by omega) (by omega)]; exact Nat.le_trans (h4 i hi) (by omega)
      · rw [q, ea]; omega
      · by_cases q1 : i = 3 * M 3 + 1
        · rw [q1, show 109 + (3 * M 3 + 1) = 109 + 3 * M 3 + 1 by omega, eb]; omega
        · by_cases q2 : i = 3 * M 3 + 2
          · rw [q2, show 109 + (3 * M 3 + 2) = 109 + 3 * M 3 + 2 by omega, ec]; omega
          · rw [eN _ (by omega) (by omega) (by omega) (by omega)]; exact Nat.le_trans (h4 i hi) (by omega)
  · rename_i e
    have hr : ntF M s f (M 3) 0 < M 3 := by omega
    have eN : ∀ i, i ≠ 109 + 3 * ntF M s f (M 3) 0 + 2 → va_up M (109 + 3 * ntF M s f (M 3) 0 + 2) (M (109 + 3 * ntF M s f (M 3) 0 + 2) + 1) i = M i := fun i a => by simp only [va_up]; rw [if_neg a]
    refine ⟨by rw [eN _ (by omega)]; exact h1, fun k hk => ?_, fun j k hj hk => ?_, fun i hi => ?_⟩
    · rw [eN 3 (by omega)] at hk; rw [eN _ (by omega), eN _ (by omega)]; exact h2 k hk
    · rw [eN 3 (by omega)] at hk; rw [eN _ (by omega), eN _ (by omega), eN _ (by omega), eN _ (by omega)]; exact h3 j k hj hk
    · simp only [va_up]
      split
      · rename_i c; have := h4 i hi; rw [c] at this; omega
      · have := h4 i hi; omega
def MI (M : Nat → Nat) (B : Nat) : Prop := NK M ∧ ((∀ i, i < 4 → mFi M i ≤ 2519) ∧ (∀ i, i < 4 → mT M i ≤ 100000000) ∧ (∀ i, i < 48 → mAm M i ≤ 1000000)) ∧ (M 4 ≤ 1000 ∧ M 5 ≤ 100 ∧ M 6 ≤ 1000 ∧ (1 ≤ M 7 ∧ M 7 ≤ 1000000) ∧ M 8 ≤ 100000) ∧ M 1 ≤ 100000 ∧ (∀ i, i < 12 → mW M i ≤ B) ∧ NT M B
theorem MI_of {M N : Nat → Nat} {B C : Nat} (h : MI M B) (nk : NK N) (ef : ∀ i, i < 4 → N (45 + 4 * i) = M (45 + 4 * i) ∧ N (45 + 4 * i + 2) = M (45 + 4 * i + 2)) (es : ∀ i, 4 ≤ i → i ≤ 8 → N i = M i) (h1 : N 1 ≤ 100000) (ha : ∀ i, i < 48 → mAm N i ≤ 1000000) (hw : ∀ i, i < 12 → mW N i ≤ C) (nt : NT N C) : MI N C := by
  obtain ⟨-, ⟨a1, a2, -⟩, a4, -, -, -⟩ := h
  refine ⟨nk, ⟨fun i hi => ?_, fun i hi => ?_, ha⟩, ?_, h1, hw, nt⟩
  · have := a1 i hi; unfold mFi at *; rw [(ef i hi).2]; exact this
  · have := a2 i hi; unfold mT at *; rw [Nat.add_zero, (ef i hi).1]; exact this
  · rw [es 4 (by omega) (by omega), es 5 (by omega) (by omega), es 6 (by omega) (by omega), es 7 (by omega) (by omega), es 8 (by omega) (by omega)]; exact a4
theorem mvL_hi (M Sd : Nat → Nat) (i : Nat) (h : 109 ≤ i) : mvL M Sd 4 i = M i := by simp only [mvL]; rw [if_neg (by omega)]
theorem mvL_am {M Sd : Nat → Nat} (h : ∀ i, i < 48 → mAm M i ≤ 1000000) : ∀ i, i < 48 → mAm (mvL M Sd 4) i ≤ 1000000 := by
  intro i hi
  have := h i hi
  unfold mAm at *
  simp only [mvL]
  split
  · exact Nat.zero_le _
  · exact this
theorem MI_ps {M Sd : Nat → Nat} {B s f : Nat} (h : MI M B) (hs : s < 4) (hf : f ≤ M 0) : MI (mvL (va_up M (45 + 4 * s + 1) f) (sdL M Sd 4) 4) B := by
  have hk := h.1
  have hi := h.2.2.2.2
  have e : ∀ i, i < 61 → i ≠ 45 + 4 * s + 1 → mvL (va_up M (45 + 4 * s + 1) f) (sdL M Sd 4) 4 i = M i := fun i a b => by rw [mvL_lo _ _ _ _ a]; simp only [va_up]; rw [if_neg b]
  refine MI_of h (NK_mv (pr_up hk.1 hk.2.1 hk.2.2.1 hk.2.2.2 hs hf)) (fun i hi => ⟨e _ (by omega) (by omega), e _ (by omega) (by omega)⟩) (fun i a b => e i (by omega) (by omega)) (by rw [e 1 (by omega) (by omega)]; exact h.2.2.2.1) (mvL_am (fun i hi => ?_)) (fun i hi2 => ?_) (NT_of hi.2 (Nat.le_refl _) (e 3 (by omega) (by omega)) (fun i q => ?_))
  · have := h.2.1.2.2 i hi; unfold mAm at *; simp only [va_up]; rw [if_neg (by omega)]; exact this
  · have := hi.1 i hi2; unfold mW at *; rw [e _ (by omega) (by omega)]; exact this
  · rw [mvL_hi _ _ _ q]; simp only [va_up]; rw [if_neg (by omega)]
theorem MI_gn {M : Nat → Nat} {B k : Nat} (h : MI M B) (hk : M 1 + k ≤ 100000) : MI (va_up (gnL M k 48) 1 (M 1 + k)) B := by
  have hi := h.2.2.2.2
  have e : ∀ i, i < 61 → i ≠ 1 → va_up (gnL M k 48) 1 (M 1 + k) i = M i := fun i a b => by simp only [va_up]; rw [if_neg b, gnL_lo _ _ _ _ a]
  refine MI_of h (NK_of h.1 (fun i q => e i (by omega) (by omega))) (fun i hi => ⟨e _ (by omega) (by omega), e _ (by omega) (by omega)⟩) (fun i a b => e i (by omega) (by omega)) (by simp only [va_up]; rw [if_pos trivial]; exact hk) (gn_am h.2.1.2.2) (fun i hi2 => ?_) (NT_of hi.2 (Nat.le_refl _) (e 3 (by omega) (by omega)) (fun i q => ?_))
  · have := hi.1 i hi2; unfold mW at *; rw [e _ (by omega) (by omega)]; exact this
  · simp only [va_up, gnL]; rw [if_neg (by omega), if_neg (by omega)]
theorem pk5_ne {M : Nat → Nat} {s y q i : Nat} (hs : s < 4) (k : NK M) (h : 45 ≤ i ∨ (i < 9 ∧ i ≠ 2)) : pk5 M s y q i = pk3 M s y q i := by
  have h3 := NK3 (y := y) (q := q) hs k
  have a1 : mSo (pk3 M s y q) s ≤ 12 := Nat.le_trans (mSo_le h3.2.2.2 hs) h3.1
  have a2 : pk3 M s y q (45 + 4 * s + 1) ≤ 12 := Nat.le_trans (h3.2.2.2 s hs) h3.1
  unfold pk5
  split
  · unfold pk4; exact wrA_ne (by omega) (by omega) (by omega)
  · rw [wrA_ne (by omega) (by omega) (by omega)]; unfold pk4; exact wrA_ne (by omega) (by omega) (by omega)
theorem pk6_lo {M Sd : Nat → Nat} {s y q i : Nat} (hs : s < 4) (k : NK M) (h : (45 ≤ i ∧ i < 61) ∨ (i < 9 ∧ i ≠ 2) ∨ 109 ≤ i) : pk6 M Sd s y q i = pk3 M s y q i := by
  unfold pk6
  split
  · rfl
  · rcases h with h | h | h
    · rw [mvL_lo _ _ _ _ (by omega)]; exact pk5_ne hs k (by omega)
    · rw [mvL_lo _ _ _ _ (by omega)]; exact pk5_ne hs k (by omega)
    · rw [mvL_hi _ _ _ h]; exact pk5_ne hs k (by omega)
theorem pk5_w {M : Nat → Nat} {s y q i : Nat} (hi : i < 12) : mW (pk5 M s y q) i ≤ mW (pk3 M s y q) i + 2 * q := by
  have h4 : mW (pk4 M s y q) i ≤ mW (pk3 M s y q) i + q := wrA_w
  unfold pk5
  split
  · omega
  · have := wrA_w (M := pk4 M s y q) (f := pk3 M s y q (45 + 4 * s + 1)) (q := q) (i := i)
    omega
theorem MI_pk {M Sd : Nat → Nat} {B s y q : Nat} (h : MI M B) (hs : s < 4) (hq : q ≤ 1000) : MI (pk6 M Sd s y q) (B + 2000) := by
  have hk := h.1
  have hi := h.2.2.2.2
  have e : ∀ i, (45 ≤ i ∧ i < 61 ∧ i ≠ 45 + 4 * s + 3) ∨ (i < 9 ∧ i ≠ 2 ∧ i ≠ 3) → pk6 M Sd s y q i = M i := fun i a => by rw [pk6_lo hs hk (by omega)]; exact pk3_lo (by omega) (by omega) (by omega)
  have hf : pk2 M s y q (45 + 4 * s + 1) ≤ 12 := by rw [pk2_lo (by omega) (by omega)]; exact Nat.le_trans (hk.2.2.2 s hs) hk.1
  have hnt : NT (pk3 M s y q) (B + 12) := NT_nt (NT_of hi.2 (Nat.le_refl _) (pk2_lo (by omega) (by omega)) (fun i q => pk2_hi hs q)) hs hf
  refine MI_of h ?_ (fun i hi => ⟨e _ (by omega), e _ (by omega)⟩) (fun i a b => e i (by omega)) (by rw [e 1 (by omega)]; exact h.2.2.2.1) (pk6_am hs hk h.2.1.2.2) (fun i hi2 => ?_) (NT_of hnt (by omega) (pk6_lo hs hk (by omega)) (fun i z => pk6_lo hs hk (by omega)))
  · unfold pk6
    split
    · exact NK3 hs hk
    · exact NK_mv (NK5 hs hk)
  · have h1 := hi.1 i hi2
    have h2 : mW (pk3 M s y q) i = mW M i := by unfold mW; exact pk3_lo (by omega) (by omega) (by omega)
    have h3 := pk5_w (M := M) (s := s) (y := y) (q := q) hi2
    have h5 : mW (pk6 M Sd s y q) i ≤ mW (pk3 M s y q) i + 2 * q := by
      unfold pk6
      split
      · omega
      · have : mW (mvL (pk5 M s y q) (sdL (pk3 M s y q) Sd 4) 4) i = mW (pk5 M s y q) i := by unfold mW; exact mvL_lo _ _ _ _ (by omega)
        omega
    omega
