/-! ===== pluck, fret ===== -/
theorem mSo_d {M N : Nat → Nat} (k : NK M) {s : Nat} (hs : s < 4) (e0 : N 0 = M 0) (e : ∀ i, 9 ≤ i → i < 45 → N i = M i) (ep : N (45 + 4 * s + 1) = M (45 + 4 * s + 1)) : mSo N s = mSo M s ∧ mSt N s = mSt M s := by
  have hn := k.1
  have q1 : mSo N s = mSo M s := by
    unfold mSo
    rw [show mPr N s = mPr M s from ep, e0]
    exact srcN_c (fun j hj => e _ (by omega) (by omega)) (fun j hj => e _ (by omega) (by omega)) (k.2.2.2 s hs)
  refine ⟨q1, ?_⟩
  unfold mSt
  rw [q1]
  exact atN_c (n := M 0) (fun j hj => e _ (by omega) (by omega)) (mSo_le k.2.2.2 hs)
theorem SN_nt {Or Ti M : Nat → Nat} {B s f : Nat} (h : SN Or Ti M) (n : NT M B) (hs : s < 4) (hf : f ≤ 12) : nsz Ti (M 3) (s * 13 + f) = ntM M s f 3 ∧ SN (nOr Or Ti (M 3) (s * 13 + f)) (va_up Ti (s * 13 + f) (Ti (s * 13 + f) + 1)) (ntM M s f) := by
  obtain ⟨h1, h2, h3⟩ := h
  obtain ⟨r1, r2, r3, r4⟩ := ntF_sp (M := M) (s := s) (f := f) (M 3) 0
  have hnw := nt_new n hs hf
  obtain ⟨n1, n2, n3, n4⟩ := n
  by_cases c : ntF M s f (M 3) 0 = M 3
  · have hlt := hnw c
    rw [c] at r3
    have hno : ∀ k, k < M 3 → Or k ≠ s * 13 + f := fun k hk q => by
      rw [(h1 k hk).1] at q
      have a1 := n2 k hk
      exact r3 k (Nat.zero_le _) hk ⟨by omega, by omega⟩
    have ht : Ti (s * 13 + f) = 0 := h2 _ (by omega) hno
    have eN : ∀ i, i ≠ 3 → i ≠ 109 + 3 * M 3 → i ≠ 109 + 3 * M 3 + 1 → i ≠ 109 + 3 * M 3 + 2 → ntM M s f i = M i := fun i a b c1 d => by
      unfold ntM; rw [if_pos c, c]; unfold ntU; simp only [va_up]; rw [if_neg d, if_neg a, if_neg d, if_neg c1, if_neg b]
    have e3 : ntM M s f 3 = M 3 + 1 := by unfold ntM; rw [if_pos c, c]; unfold ntU; simp only [va_up]; rw [if_neg (by omega), if_pos trivial]
    have ea : ntM M s f (109 + 3 * M 3) = s := by unfold ntM; rw [if_pos c, c]; unfold ntU; simp only [va_up]; rw [if_neg (by omega), if_neg (by omega), if_neg (by omega), if_neg (by omega), if_pos trivial]
    have eb : ntM M s f (109 + 3 * M 3 + 1) = f := by unfold ntM; rw [if_pos c, c]; unfold ntU; simp only [va_up]; rw [if_neg (by omega), if_neg (by omega), if_neg (by omega), if_pos trivial]
    have ec : ntM M s f (109 + 3 * M 3 + 2) = 1 := by unfold ntM; rw [if_pos c, c]; unfold ntU; simp only [va_up]; rw [if_pos trivial]
    have eO : nOr Or Ti (M 3) (s * 13 + f) = va_up Or (M 3) (s * 13 + f) := by unfold nOr; rw [if_pos ⟨ht, hlt⟩]
    refine ⟨by unfold nsz; rw [if_pos ⟨ht, hlt⟩, e3], ?_⟩
    rw [eO, ht]
    refine ⟨fun k hk => ?_, fun i hi q => ?_, fun i hi => ?_⟩
    · rw [e3] at hk
      by_cases ck : k = M 3
      · subst ck
        have o1 : va_up Or (M 3) (s * 13 + f) (M 3) = s * 13 + f := if_pos rfl
        have o2 : va_up Ti (s * 13 + f) (0 + 1) (s * 13 + f) = 0 + 1 := if_pos rfl
        rw [o1, o2, ea, eb, ec]
        exact ⟨rfl, rfl, Nat.le_refl _⟩
      · have o1 : va_up Or (M 3) (s * 13 + f) k = Or k := if_neg ck
        have o2 : va_up Ti (s * 13 + f) (0 + 1) (Or k) = Ti (Or k) := if_neg (hno k (by omega))
        rw [o1, o2, eN _ (by omega) (by omega) (by omega) (by omega), eN _ (by omega) (by omega) (by omega) (by omega), eN _ (by omega) (by omega) (by omega) (by omega)]
        exact h1 k (by omega)
    · have q9 : s * 13 + f ≠ i := fun z => q (M 3) (by omega) ((show va_up Or (M 3) (s * 13 + f) (M 3) = s * 13 + f from if_pos rfl).trans z)
      have o1 : va_up Ti (s * 13 + f) (0 + 1) i = Ti i := if_neg (fun z => q9 z.symm)
      rw [o1]
      refine h2 i hi (fun k hk => ?_)
      have o2 : va_up Or (M 3) (s * 13 + f) k = Or k := if_neg (by omega)
      rw [← o2]
      exact q k (by omega)
    · simp only [va_up]
      split
      · omega
      · exact h3 i hi
  · have hr : ntF M s f (M 3) 0 < M 3 := by omega
    have hm := r4 (by omega)
    have hr1 := h1 _ hr
    have ho : Or (ntF M s f (M 3) 0) = s * 13 + f := by rw [hr1.1, hm.1, hm.2]
    have ht : Ti (s * 13 + f) ≠ 0 := by rw [← ho, hr1.2.1]; have := hr1.2.2; omega
    have eN : ∀ i, i ≠ 109 + 3 * ntF M s f (M 3) 0 + 2 → ntM M s f i = M i := fun i a => by unfold ntM; rw [if_neg c]; simp only [va_up]; rw [if_neg a]
    have ec : ntM M s f (109 + 3 * ntF M s f (M 3) 0 + 2) = M (109 + 3 * ntF M s f (M 3) 0 + 2) + 1 := by unfold ntM; rw [if_neg c]; simp only [va_up]; rw [if_pos trivial]
    have eO : nOr Or Ti (M 3) (s * 13 + f) = Or := by unfold nOr; rw [if_neg (fun q => ht q.1)]
    refine ⟨by unfold nsz; rw [if_neg (fun q => ht q.1), eN _ (by omega)], ?_⟩
    rw [eO]
    refine ⟨fun k hk => ?_, fun i hi q => ?_, h3⟩
    · rw [eN 3 (by omega)] at hk
      simp only [va_up]
      by_cases ck : k = ntF M s f (M 3) 0
      · rw [ck, if_pos ho, ec, eN _ (by omega), eN _ (by omega), ← ho, hr1.2.1]
        exact ⟨hr1.1, rfl, by omega⟩
      · rw [if_neg ?_, eN _ (by omega), eN _ (by omega), eN _ (by omega)]
        · exact h1 k hk
        · intro q
          rw [(h1 k hk).1] at q
          have a1 := n2 k hk
          rcases Nat.lt_or_ge k (ntF M s f (M 3) 0) with z | z
          · exact n3 k _ z hr ⟨by omega, by omega⟩
          · exact n3 (ntF M s f (M 3) 0) k (by omega) hk ⟨by omega, by omega⟩
    · simp only [va_up]
      rw [if_neg ?_]
      · exact h2 i hi (fun k hk => q k (by rw [eN 3 (by omega)]; exact hk))
      · intro z
        exact q _ (by rw [eN 3 (by omega)]; exact hr) (ho.trans z.symm)
theorem SB_wr {Y : Nat → Nat → Nat} {M : Nat → Nat} {f q : Nat} (h : SB Y M) (h3 : M 3 ≤ 52) (hf1 : 1 ≤ f) (hf : f ≤ 12) : SB (mkX (Y 0) (wH (Y 1) (Y 2) f q (Y 12 3)) (wW (Y 1) (Y 2) f q (Y 12 3)) (Y 3) (Y 4) (Y 5) (Y 6) (Y 7) (Y 8) (Y 9) (Y 10) (Y 11) (Y 12) (Y 13 0) (Y 13 1) (Y 13 2) (Y 13 3 + wlost (Y 1) (Y 2) f q (Y 12 3))) (wrA M f q) := by
  obtain ⟨⟨a0, a3, a1, a2⟩, h1, h2, h4, h5, h6⟩ := h
  have e : ∀ i, i ≠ 9 + 3 * (f - 1) + 2 → i ≠ 9 + 3 * (f - 1) + 1 → i ≠ 2 → wrA M f q i = M i := fun i b c d => wrA_ne b c d
  obtain ⟨q1, q2, q3⟩ := h2 (f - 1) (by omega)
  have ep : Y 12 3 = M 7 := h1 3 (by omega)
  have ek : wlost (Y 1) (Y 2) f q (Y 12 3) = wrK M f q := by
    unfold wrK wlost
    rw [q2, q3, ep]
  have ew : wrA M f q (9 + 3 * (f - 1) + 2) = M (9 + 3 * (f - 1) + 2) + q - wrK M f q * M 7 := wrM_w _ _ _ _ _
  have eh : wrA M f q (9 + 3 * (f - 1) + 1) = M (9 + 3 * (f - 1) + 1) - wrK M f q := wrM_h _ _ _ _ _
  have el : wrA M f q 2 = M 2 + wrK M f q := wrM_2 _ _ _ _ _
  refine ⟨⟨?_, ?_, ?_, ?_⟩, fun i hi => ?_, fun i hi => ?_, fun i hi => ?_, fun i hi => ?_, ?_⟩
  · rw [e 0 (by omega) (by omega) (by omega)]; exact a0
  · rw [e 3 (by omega) (by omega) (by omega)]; exact a3
  · rw [e 1 (by omega) (by omega) (by omega)]; exact a1
  · show Y 13 3 + wlost (Y 1) (Y 2) f q (Y 12 3) = wrA M f q 2
    rw [el, ek, a2]
  · rw [e _ (by omega) (by omega) (by omega)]; exact h1 i hi
  · obtain ⟨p1, p2, p3⟩ := h2 i hi
    refine ⟨?_, ?_, ?_⟩
    · unfold mP; rw [e _ (by omega) (by omega) (by omega)]; exact p1
    · show wH (Y 1) (Y 2) f q (Y 12 3) i = wrA M f q (9 + 3 * i + 1)
      unfold wH
      rw [if_neg (by omega)]
      simp only [va_up]
      by_cases c : i = f - 1
      · rw [if_pos c, c, eh, ek, q2]; rfl
      · rw [if_neg c, e _ (by omega) (by omega) (by omega)]; exact p2
    · show wW (Y 1) (Y 2) f q (Y 12 3) i = wrA M f q (9 + 3 * i + 2)
      unfold wW
      rw [if_neg (by omega)]
      simp only [va_up]
      by_cases c : i = f - 1
      · rw [if_pos c, c, ew, ek, q3, ep]; rfl
      · rw [if_neg c, e _ (by omega) (by omega) (by omega)]; exact p3
  · unfold mT mPr mFi mPl; rw [e _ (by omega) (by omega) (by omega), e _ (by omega) (by omega) (by omega), e _ (by omega) (by omega) (by omega), e _ (by omega) (by omega) (by omega)]; exact h4 i hi
  · unfold mAm; rw [e _ (by omega) (by omega) (by omega)]; exact h5 i hi
  · exact SN_c h3 (e 3 (by omega) (by omega) (by omega)) (fun i hi _ => e i (by omega) (by omega) (by omega)) h6
def yX (X : Nat → Nat → Nat) (s y q : Nat) : Nat → Nat → Nat := mkX (X 0) (X 1) (X 2) (X 3) (X 4) (X 5) (va_up (X 6) s (X 6 s + 1)) (X 7) (X 8) (wakeL (X 9) s (y - X 8 s) (2520 - X 8 s) q 12) (nOr (X 10) (X 11) (X 13 1) (s * 13 + X 4 s)) (va_up (X 11) (s * 13 + X 4 s) (X 11 (s * 13 + X 4 s) + 1)) (X 12) (X 13 0) (nsz (X 11) (X 13 1) (s * 13 + X 4 s)) (X 13 2) (X 13 3)
theorem SB_p3 {X : Nat → Nat → Nat} {M : Nat → Nat} {B s y q : Nat} (h : SR X M) (m : MI M B) (hs : s < 4) : SB (yX X s y q) (pk3 M s y q) := by
  have e : ∀ i, i ≠ 45 + 4 * s + 3 → i < 61 → pk2 M s y q i = M i := fun i a b => pk2_lo b a
  have e' : ∀ i, 109 ≤ i → pk2 M s y q i = M i := fun i a => pk2_hi hs a
  have ef : pk2 M s y q (45 + 4 * s + 1) = M (45 + 4 * s + 1) := e _ (by omega) (by omega)
  have hpr : M (45 + 4 * s + 1) ≤ 12 := Nat.le_trans (m.1.2.2.2 s hs) m.1.1
  have hnt : NT (pk2 M s y q) B := NT_of m.2.2.2.2.2 (Nat.le_refl _) (e 3 (by omega) (by omega)) e'
  obtain ⟨⟨⟨a0, a3, a1, a2⟩, h1, h2, h4, h5, h6⟩, h7⟩ := h
  have hn6 : SN (X 10) (X 11) (pk2 M s y q) := SN_c m.2.2.2.2.2.1 (e 3 (by omega) (by omega)) (fun i hi _ => e' i hi) h6
  have hnn := SN_nt hn6 hnt hs hpr
  rw [e 3 (by omega) (by omega)] at hnn
  have e4 : X 4 s = M (45 + 4 * s + 1) := (h4 s hs).2.1
  have l : ∀ i, i < 109 → i ≠ 3 → pk3 M s y q i = pk2 M s y q i := fun i a b => ntM_lo a b
  refine ⟨⟨?_, ?_, ?_, ?_⟩, fun i hi => ?_, fun i hi => ?_, fun i hi => ?_, fun i hi => ?_, ?_⟩
  · rw [l 0 (by omega) (by omega), e 0 (by omega) (by omega)]; exact a0
  · show nsz (X 11) (X 13 1) (s * 13 + X 4 s) = pk3 M s y q 3
    rw [a3, e4]
    unfold pk3
    rw [ef]
    exact hnn.1
  · rw [l 1 (by omega) (by omega), e 1 (by omega) (by omega)]; exact a1
  · rw [l 2 (by omega) (by omega), e 2 (by omega) (by omega)]; exact a2
  · rw [l _ (by omega) (by omega), e _ (by omega) (by omega)]; exact h1 i hi
  · unfold mP mH mW; rw [l _ (by omega) (by omega), l _ (by omega) (by omega), l _ (by omega) (by omega), e _ (by omega) (by omega), e _ (by omega) (by omega), e _ (by omega) (by omega)]; exact h2 i hi
  · obtain ⟨q1, q2, q3, q4⟩ := h4 i hi
    refine ⟨?_, ?_, ?_, ?_⟩
    · unfold mT; rw [l _ (by omega) (by omega), e _ (by omega) (by omega)]; exact q1
    · unfold mPr; rw [l _ (by omega) (by omega), e _ (by omega) (by omega)]; exact q2
    · unfold mFi; rw [l _ (by omega) (by omega), e _ (by omega) (by omega)]; exact q3
    · show va_up (X 6) s (X 6 s + 1) i = pk3 M s y q (45 + 4 * i + 3)
      rw [l _ (by omega) (by omega)]
      unfold pk2
      simp only [va_up]
      by_cases c : i = s
      · subst c
        rw [if_pos rfl, if_pos rfl, pk1_lo (by omega)]
        rw [q4]; rfl
      · rw [if_neg c, if_neg (by omega), pk1_lo (by omega)]; exact q4
  · show wakeL (X 9) s (y - X 8 s) (2520 - X 8 s) q 12 i = pk3 M s y q (61 + i)
    rw [l _ (by omega) (by omega)]
    unfold pk2 pk1
    have e5 := h5 i hi
    unfold mAm at e5
    have e8 := (h7 s hs).2
    simp only [va_up, wakeL, pwL]
    by_cases c : s * 12 ≤ i ∧ i < s * 12 + 12
    · rw [if_pos c, if_neg (by omega), if_pos (by omega)]
      unfold wakeV pwV
      rw [e5, e8, show 61 + i - (61 + 12 * s) = i - s * 12 by omega]
    · rw [if_neg c, if_neg (by omega), if_neg (by omega)]; exact e5
  · show SN (nOr (X 10) (X 11) (X 13 1) (s * 13 + X 4 s)) (va_up (X 11) (s * 13 + X 4 s) (X 11 (s * 13 + X 4 s) + 1)) (pk3 M s y q)
    rw [a3, e4]
    unfold pk3
    rw [ef]
    exact hnn.2
theorem SR_pk {X : Nat → Nat → Nat} {M Sd : Nat → Nat} {B s y q : Nat} (h : SR X M) (m : MI M B) (hs : s < 4) (hq : q ≤ 1000) : SR (pkX X s y q) (pk6 M Sd s y q) := by
  have hb := SB_p3 (y := y) (q := q) h m hs
  have k3 := NK3 (y := y) (q := q) hs m.1
  have h52 : pk3 M s y q 3 ≤ 52 := by
    have hnt : NT (pk2 M s y q) B := NT_of m.2.2.2.2.2 (Nat.le_refl _) (pk2_lo (by omega) (by omega)) (fun i a => pk2_hi hs a)
    have hpr : M (45 + 4 * s + 1) ≤ 12 := Nat.le_trans (m.1.2.2.2 s hs) m.1.1
    exact (NT_nt hnt hs (by rw [pk2_lo (by omega) (by omega)]; exact hpr)).1
  have lo : ∀ i, i < 61 → i ≠ 45 + 4 * s + 3 → i ≠ 3 → pk3 M s y q i = M i := fun i a b c => pk3_lo a b c
  have hd : ∀ i, i < 4 → mSo (pk3 M s y q) i = mSo M i ∧ mSt (pk3 M s y q) i = mSt M i := fun i hi => mSo_d m.1 hi (lo 0 (by omega) (by omega) (by omega)) (fun j a b => lo j (by omega) (by omega) (by omega)) (lo _ (by omega) (by omega) (by omega))
  have e7 : X 7 s = mSo M s := (h.2 s hs).1
  have e4 : X 4 s = mPr M s := (h.1.2.2.2.1 s hs).2.1
  have e8 : ∀ i, i < 4 → X 8 i = mSt M i := fun i hi => (h.2 i hi).2
  have epr : pk3 M s y q (45 + 4 * s + 1) = mPr M s := lo _ (by omega) (by omega) (by omega)
  have hso := mSo_le m.1.2.2.2 hs
  have hn := m.1.1
  by_cases c : mSo M s = 0
  · have cp : mPr M s = 0 := by
      unfold mSo srcN at c
      by_cases z : mPr M s = 0
      · exact z
      · rw [if_neg z] at c
        have := srcL_ge (mP M) (mH M) (mPr M s) (M 0 - mPr M s)
        omega
    have ex : pkX X s y q = seX (yX X s y q) := by
      unfold pkX seX yX pkH pkW pkL
      rw [e7, e4, c, cp]
      simp only [wH, wW, wlost, if_pos, Nat.add_zero]
      rfl
    have e6 : pk6 M Sd s y q = mvL (pk3 M s y q) (mSt (pk3 M s y q)) 4 := by
      rw [mvL_id (fun i hi => rfl)]
      unfold pk6
      rw [if_pos ((hd s hs).1.trans c)]
    rw [ex, e6]
    exact SR_se hb k3 h52 (fun i hi => (e8 i hi).trans (hd i hi).2.symm)
  · have c1 : 1 ≤ mPr M s := at_pos m.1 hs (by omega)
    have e6 : pk6 M Sd s y q = mvL (pk5 M s y q) (sdL (pk3 M s y q) Sd 4) 4 := by
      unfold pk6
      rw [if_neg (by rw [(hd s hs).1]; exact c)]
    rw [e6]
    have k5 := NK5 (y := y) (q := q) hs m.1
    have hb4 := SB_wr (q := q) hb h52 (f := mSo M s) (by omega) (by omega)
    have e3 : wrA (pk3 M s y q) (mSo M s) q 3 = pk3 M s y q 3 := wrA_ne (by omega) (by omega) (by omega)
    by_cases cc : mSo M s = mPr M s
    · have e5 : pk5 M s y q = wrA (pk3 M s y q) (mSo M s) q := by
        unfold pk5
        rw [epr, (hd s hs).1, if_pos cc.symm]
        unfold pk4
        rw [(hd s hs).1]
      have h53 : pk5 M s y q 3 ≤ 52 := by rw [e5, e3]; exact h52
      have hb5 : SB (mkX (X 0) (pkH (X 1) (X 2) (X 7 s) (X 4 s) q (X 12 3)) (pkW (X 1) (X 2) (X 7 s) (X 4 s) q (X 12 3)) (X 3) (X 4) (X 5) (va_up (X 6) s (X 6 s + 1)) (X 7) (X 8) (wakeL (X 9) s (y - X 8 s) (2520 - X 8 s) q 12) (nOr (X 10) (X 11) (X 13 1) (s * 13 + X 4 s)) (va_up (X 11) (s * 13 + X 4 s) (X 11 (s * 13 + X 4 s) + 1)) (X 12) (X 13 0) (nsz (X 11) (X 13 1) (s * 13 + X 4 s)) (X 13 2) (pkL (X 1) (X 2) (X 7 s) (X 4 s) q (X 12 3) (X 13 3))) (pk5 M s y q) := by
        rw [e5]
        unfold pkH pkW pkL
        have cx : X 7 s = X 4 s := by rw [e7, e4]; exact cc
        rw [if_pos cx, if_pos cx, if_pos cx, e7]
        exact hb4
      exact SR_se hb5 k5 h53 (fun i hi => by rw [sdL_at _ _ hi, (hd i hi).2]; exact e8 i hi)
    · have e5 : pk5 M s y q = wrA (wrA (pk3 M s y q) (mSo M s) q) (mPr M s) q := by
        unfold pk5
        rw [epr, (hd s hs).1, if_neg (fun z => cc z.symm)]
        unfold pk4
        rw [(hd s hs).1]
      have hpl := m.1.2.2.2 s hs
      have hb5' := SB_wr (q := q) hb4 (by rw [e3]; exact h52) (f := mPr M s) c1 (by omega)
      have h53 : pk5 M s y q 3 ≤ 52 := by rw [e5, wrA_ne (by omega) (by omega) (by omega), e3]; exact h52
      have hb5 : SB (mkX (X 0) (pkH (X 1) (X 2) (X 7 s) (X 4 s) q (X 12 3)) (pkW (X 1) (X 2) (X 7 s) (X 4 s) q (X 12 3)) (X 3) (X 4) (X 5) (va_up (X 6) s (X 6 s + 1)) (X 7) (X 8) (wakeL (X 9) s (y - X 8 s) (2520 - X 8 s) q 12) (nOr (X 10) (X 11) (X 13 1) (s * 13 + X 4 s)) (va_up (X 11) (s * 13 + X 4 s) (X 11 (s * 13 + X 4 s) + 1)) (X 12) (X 13 0) (nsz (X 11) (X 13 1) (s * 13 + X 4 s)) (X 13 2) (pkL (X 1) (X 2) (X 7 s) (X 4 s) q (X 12 3) (X 13 3))) (pk5 M s y q) := by
        rw [e5]
        unfold pkH pkW pkL
        have cx : ¬ X 7 s = X 4 s := by rw [e7, e4]; exact cc
        rw [if_neg cx, if_neg cx, if_neg cx, e7, e4]
        have := hb5'
        rw [← e4] at this
        rw [← e4]
        exact this
      exact SR_se hb5 k5 h53 (fun i hi => by rw [sdL_at _ _ hi, (hd i hi).2]; exact e8 i hi)
/-! fret -/
theorem insI_c {P P' : Nat → Nat} {x : Nat} : ∀ n, (∀ i, i < n → P i = P' i) → insI P x n = insI P' x n
  | 0, _ => rfl
  | n + 1, h => by
    simp only [insI]
    rw [h n (by omega), insI_c n (fun i hi => h i (by omega))]
theorem insA_c {P P' : Nat → Nat} {n k v i : Nat} (hi : i < 12) (h : ∀ j, j < 12 → P j = P' j) : insA P n k v i = insA P' n k v i := by
  simp only [insA, va_up, shf]
  split
  · rfl
  · split
    · exact h _ (by omega)
    · exact h _ hi
theorem frM_ne {M : Nat → Nat} {y v i : Nat} (hn : M 0 < 12) (h : (1 ≤ i ∧ i < 9) ∨ (45 ≤ i ∧ i < 61 ∧ (i - 45) % 4 ≠ 1) ∨ 61 ≤ i) : frM M y v i = M i := by
  have hk := insI_le (mP M) y (M 0)
  unfold frM
  simp only [mrM]
  rw [if_neg (by omega)]
  rcases h with h | h | h
  · exact frI_lo h.1 h.2
  · exact frI_pr hk hn (by omega)
  · exact frI_pr hk hn (by omega)
theorem SR_fr {X : Nat → Nat → Nat} {M Sd : Nat → Nat} {B y v : Nat} (h : SR X M) (m : MI M B) (hn : M 0 < 12) (hy : y ≤ 2400) (hv : v ≤ 2000) :
    SR (seX (mkX (insA (X 0) (X 13 0) (insI (X 0) y (X 13 0)) y) (insA (X 1) (X 13 0) (insI (X 0) y (X 13 0)) v) (insA (X 2) (X 13 0) (insI (X 0) y (X 13 0)) 0) (X 3) (mrfL (X 4) (insI (X 0) y (X 13 0) + 1) 4) (X 5) (X 6) (X 7) (X 8) (X 9) (X 10) (X 11) (X 12) (X 13 0 + 1) (X 13 1) (X 13 2) (X 13 3))) (mvL (frM M y v) (sdL M Sd 4) 4) := by
  have e := fun i h => frM_ne (M := M) (y := y) (v := v) (i := i) hn h
  have k1 : NK (frM M y v) := NK_fr hn hy hv m.1
  refine SR_se ?_ k1 (by rw [e 3 (by omega)]; exact m.2.2.2.2.2.1) (fun i hi => by rw [sdL_at M Sd hi]; exact (h.2 i hi).2)
  obtain ⟨⟨⟨a0, a3, a1, a2⟩, h1, h2, h4, h5, h6⟩, h7⟩ := h
  have ei : insI (X 0) y (X 13 0) = insI (mP M) y (M 0) := by rw [a0]; exact insI_c _ (fun i hi => (h2 i (by omega)).1)
  refine ⟨⟨?_, ?_, ?_, ?_⟩, fun i hi => ?_, fun i hi => ?_, fun i hi => ?_, fun i hi => ?_, ?_⟩
  · rw [frM_0]; show X 13 0 + 1 = _; rw [a0]
  · rw [e 3 (by omega)]; exact a3
  · rw [e 1 (by omega)]; exact a1
  · rw [e 2 (by omega)]; exact a2
  · rw [e _ (by omega)]; exact h1 i hi
  · refine ⟨?_, ?_, ?_⟩
    · show insA (X 0) (X 13 0) (insI (X 0) y (X 13 0)) y i = frM M y v (9 + 3 * i + 0)
      rw [frM_w hn hi (by omega), ei, a0, if_pos rfl]
      exact insA_c hi (fun j hj => (h2 j hj).1)
    · show insA (X 1) (X 13 0) (insI (X 0) y (X 13 0)) v i = frM M y v (9 + 3 * i + 1)
      rw [frM_w hn hi (by omega), ei, a0, if_neg (by omega), if_pos rfl]
      exact insA_c hi (fun j hj => (h2 j hj).2.1)
    · show insA (X 2) (X 13 0) (insI (X 0) y (X 13 0)) 0 i = frM M y v (9 + 3 * i + 2)
      rw [frM_w hn hi (by omega), ei, a0, if_neg (by omega), if_neg (by omega)]
      exact insA_c hi (fun j hj => (h2 j hj).2.2)
  · obtain ⟨q1, q2, q3, q4⟩ := h4 i hi
    refine ⟨?_, ?_, ?_, ?_⟩
    · unfold mT; rw [e _ (by omega)]; exact q1
    · show mrfL (X 4) (insI (X 0) y (X 13 0) + 1) 4 i = mPr (frM M y v) i
      rw [frM_p hn hi, ei]
      simp only [mrfL]
      rw [q2]
    · unfold mFi; rw [e _ (by omega)]; exact q3
    · unfold mPl; rw [e _ (by omega)]; exact q4
  · unfold mAm; rw [e _ (by omega)]; exact h5 i hi
  · exact SN_c m.2.2.2.2.2.1 (e 3 (by omega)) (fun i hi _ => e i (by omega)) h6
