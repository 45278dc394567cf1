/-! ===== answers ===== -/
theorem mhL_c {A A' : Nat → Nat} {h s : Nat} (hs : s < 4) (e : ∀ i, i < 48 → A i = A' i) : ∀ k, k ≤ 12 → mhL A h s k = mhL A' h s k
  | 0, _ => rfl
  | k + 1, hk => by
    simp only [mhL]
    rw [mhL_c hs e k (by omega), e (s * 12 + k) (by omega)]
theorem hrL_c {A A' : Nat → Nat} {h : Nat} (e : ∀ i, i < 48 → A i = A' i) : ∀ k, k ≤ 4 → hrL A h k = hrL A' h k
  | 0, _ => rfl
  | k + 1, hk => by
    simp only [hrL]
    rw [hrL_c e k (by omega), mhL_c (by omega) e 12 (Nat.le_refl _)]
theorem sumA_c {A A' : Nat → Nat} {s : Nat} (hs : s < 4) (e : ∀ i, i < 48 → A i = A' i) : ∀ k, k ≤ 12 → sumA A s k = sumA A' s k
  | 0, _ => rfl
  | k + 1, hk => by
    simp only [sumA]
    rw [sumA_c hs e k (by omega), e (s * 12 + k) (by omega)]
theorem maskL_e {row : Nat → Nat} {M : Nat → Nat} {f snd : Nat} (e : ∀ i, i < 4 → row i = if snd = 0 then mPr M i else mSo M i) : ∀ k, k ≤ 4 → maskL row f k = msL M f snd k
  | 0, _ => rfl
  | k + 1, hk => by
    simp only [maskL, msL]
    rw [maskL_e e k (by omega), e k (by omega)]
    by_cases c : (if snd = 0 then mPr M k else mSo M k) = f
    · rw [if_pos c, if_pos c]
    · rw [if_neg c, if_neg c, Nat.or_zero]
theorem A_fi {X : Nat → Nat → Nat} {M : Nat → Nat} {B f w : Nat} (h : SR X M) (m : MI M B) (hf1 : 1 ≤ f) (hf : f ≤ M 0) : fiX X f w = fiA M f w := by
  obtain ⟨⟨⟨a0, -⟩, -, h2, h4, -⟩, h7⟩ := h
  have hn := m.1.1
  obtain ⟨q1, q2, q3⟩ := h2 (f - 1) (by omega)
  have eat : ∀ P : Nat → Nat, atN P f = P (f - 1) := fun P => by unfold atN; rw [if_neg (by omega)]
  unfold fiX fiA
  by_cases c0 : w = 0
  · subst c0; rw [if_pos rfl, if_pos (by omega), eat, q1]; rfl
  · rw [if_neg c0]
    by_cases c1 : w = 1
    · subst c1; rw [if_pos rfl, if_pos (by omega), eat, q2]; rfl
    · rw [if_neg c1]
      by_cases c2 : w = 2
      · subst c2; rw [if_pos rfl, if_pos (by omega), eat, q3]; rfl
      · rw [if_neg c2, if_neg (show ¬ w < 3 by omega)]
        by_cases c3 : w = 3
        · subst c3
          rw [if_pos rfl, if_pos (by omega), if_neg (by omega), maskL_e (M := M) (snd := 0) (fun i hi => by rw [if_pos rfl]; exact (h4 i hi).2.1) 4 (Nat.le_refl _)]
        · rw [if_neg c3]
          by_cases c4 : w = 4
          · subst c4
            rw [if_pos rfl, if_pos (by omega), if_pos rfl, maskL_e (M := M) (snd := 1) (fun i hi => by rw [if_neg (by omega)]; exact (h7 i hi).1) 4 (Nat.le_refl _)]
          · rw [if_neg c4, if_neg (show ¬ w < 5 by omega), a0, srcN_c (fun i hi => (h2 i (by omega)).1) (fun i hi => (h2 i (by omega)).2.1) hf]
theorem line_nn {h p x : Nat} (hp : p ≤ 2400) (h1 : p ≤ x) (h2 : x ≤ 2520) : 0 ≤ lineZ h p x := by
  have hd : (0 : Int) < 2520 - (p : Int) := by omega
  have e1 : (1500 - (h : Int)) * ((x : Int) - p) = 1500 * ((x : Int) - p) - (h : Int) * ((x : Int) - p) := Int.sub_mul _ _ _
  have e2 : (h : Int) * (2520 - (x : Int)) = (h : Int) * (2520 - (p : Int)) - (h : Int) * ((x : Int) - p) := by rw [← Int.mul_sub]; congr 1; omega
  have p2 : 0 ≤ (h : Int) * (2520 - (x : Int)) := Int.mul_nonneg (by omega) (by omega)
  have e3 : -(h : Int) * (2520 - (p : Int)) = -((h : Int) * (2520 - (p : Int))) := Int.neg_mul _ _
  have key : -(h : Int) ≤ ((1500 - (h : Int)) * ((x : Int) - p)) / (2520 - p) := Int.le_ediv_of_mul_le hd (by rw [e1, e3]; omega)
  unfold lineZ
  omega
theorem mst_nn {P Hh : Nat → Nat} {x : Nat} (hP : ∀ i, i < 12 → P i ≤ 2400) (hx : x ≤ 2520) : ∀ k, k ≤ 12 → (∀ i, i < k → P i ≤ x) → 0 ≤ mstL P Hh x k
  | 0, _, _ => by simp [mstL]
  | k + 1, hk, hp => by
    have ih := mst_nn (Hh := Hh) hP hx k (by omega) (fun i hi => hp i (by omega))
    have hl := line_nn (h := Hh k) (hP k (by omega)) (hp k (by omega)) hx
    simp only [mstL]
    split
    · exact hl
    · exact ih
theorem z_ofI {x : Int} (h1 : -2147483648 ≤ x) (h2 : x < 2147483648) : (Int32.ofInt x).toInt = x := by
  exact Int32.toInt_ofInt_of_le (by omega) (by omega)
theorem mo_e {M : Nat → Nat} {y : Nat} (hP : ∀ i, i < 12 → mP M i ≤ 2400) (hH : ∀ i, i < 12 → mH M i ≤ 2000) (hy : y ≤ 2520) : ∀ k, k ≤ 12 → moL M y k = Int32.ofInt (mstL (mP M) (mH M) y k)
  | 0, _ => rfl
  | k + 1, hk => by
    have ih := mo_e hP hH hy k (by omega)
    have b1 := mstL_b hP hH hy k (by omega)
    have b2 := line_bound (hH k (by omega)) (hP k (by omega)) hy
    simp only [moL, mstL]
    rw [ih]
    by_cases c : lineZ (mH M k) (mP M k) y < mstL (mP M) (mH M) y k
    · rw [if_pos c, if_neg (by rw [Int32.le_iff_toInt_le, z_ofI (by omega) (by omega), z_ofI (by omega) (by omega)]; omega)]
    · rw [if_neg c, if_pos (by rw [Int32.le_iff_toInt_le, z_ofI (by omega) (by omega), z_ofI (by omega) (by omega)]; omega)]
theorem mstL_c {P P' Hh Hh' : Nat → Nat} {x : Nat} : ∀ k, (∀ i, i < k → P i = P' i ∧ Hh i = Hh' i) → mstL P Hh x k = mstL P' Hh' x k
  | 0, _ => rfl
  | k + 1, h => by
    simp only [mstL]
    rw [mstL_c k (fun i hi => h i (by omega)), (h k (by omega)).1, (h k (by omega)).2]
theorem A_mo {X : Nat → Nat → Nat} {M : Nat → Nat} {B f : Nat} (h : SR X M) (m : MJ M B) (hf1 : 1 ≤ f) (hf : f ≤ M 0) : Int32.ofInt (max 0 (mstL (X 0) (X 1) (atN (X 0) f) (f - 1))) = if nI 0 ≤ moL M (M (9 + 3 * (f - 1) + 0)) (f - 1) then moL M (M (9 + 3 * (f - 1) + 0)) (f - 1) else -4 := by
  obtain ⟨⟨k0, k1, k2, k3⟩, -⟩ := m.1
  have h2 := h.1.2.2.1
  have ea : atN (X 0) f = mP M (f - 1) := by unfold atN; rw [if_neg (by omega)]; exact (h2 _ (by omega)).1
  have eb : M (9 + 3 * (f - 1) + 0) = mP M (f - 1) := rfl
  have hy := k1 (f - 1) (by omega)
  have hnn : 0 ≤ mstL (mP M) (mH M) (mP M (f - 1)) (f - 1) := mst_nn k1 (by omega) (f - 1) (by omega) (fun i hi => Nat.le_of_lt (m.2 i (f - 1) hi (by omega)))
  have hb := mstL_b k1 k2 (show mP M (f - 1) ≤ 2520 by omega) (f - 1) (by omega)
  rw [ea, eb, mo_e k1 k2 (by omega) (f - 1) (by omega), mstL_c (P' := mP M) (Hh' := mH M) (f - 1) (fun i hi => ⟨(h2 i (by omega)).1, (h2 i (by omega)).2.1⟩), if_pos ?_]
  · rw [show max 0 (mstL (mP M) (mH M) (mP M (f - 1)) (f - 1)) = mstL (mP M) (mH M) (mP M (f - 1)) (f - 1) by omega]
  · rw [Int32.le_iff_toInt_le, z_ofI (by omega) (by omega), nI_toInt (by omega)]
    exact hnn
theorem A_si {X : Nat → Nat → Nat} {M : Nat → Nat} {B s w : Nat} (h : SR X M) (m : MI M B) (hs : s < 4) : siX X s w = siA M s w := by
  obtain ⟨⟨-, h1, -, h4, h5, -⟩, h7⟩ := h
  obtain ⟨q1, q2, q3, q4⟩ := h4 s hs
  obtain ⟨r1, r2⟩ := h7 s hs
  unfold siX siA
  rw [q1, q2, q3, q4, r1, r2, h1 4 (by omega), mhL_c hs h5 12 (Nat.le_refl _), sumA_c hs h5 12 (Nat.le_refl _)]
  by_cases c0 : w = 0
  · subst c0; rw [if_pos rfl, if_pos (by omega)]; rfl
  · rw [if_neg c0]
    by_cases c1 : w = 1
    · subst c1; rw [if_pos rfl, if_pos (by omega)]; rfl
    · rw [if_neg c1, if_neg (show ¬ w < 2 by omega)]; rfl
theorem cn_div {n ln d : Nat} (hd : ∀ j, n * j % ln = 0 ↔ d ∣ j) : ∀ k, cnL n ln k = k / d
  | 0 => by simp [cnL]
  | k + 1 => by
    simp only [cnL]
    rw [cn_div hd k, Nat.succ_div]
    by_cases c : d ∣ k + 1
    · rw [if_pos c, if_pos ((hd _).mpr c)]
    · rw [if_neg c, if_neg (fun q => c ((hd _).mp q))]
theorem cn_gcd {n ln : Nat} (hn : 1 ≤ n) (hl : 1 ≤ ln) : cnL n ln (ln - 1) = Nat.gcd ln n - 1 := by
  have hg : 0 < Nat.gcd ln n := Nat.gcd_pos_of_pos_left _ hl
  have e1 : ln / Nat.gcd ln n * Nat.gcd ln n = ln := Nat.div_mul_cancel (Nat.gcd_dvd_left _ _)
  have e2 : n / Nat.gcd ln n * Nat.gcd ln n = n := Nat.div_mul_cancel (Nat.gcd_dvd_right _ _)
  have hc := Nat.coprime_div_gcd_div_gcd hg
  have hd : ∀ j, n * j % ln = 0 ↔ ln / Nat.gcd ln n ∣ j := by
    intro j
    rw [← Nat.dvd_iff_mod_eq_zero]
    constructor
    · intro q
      refine Nat.Coprime.dvd_of_dvd_mul_left hc (Nat.dvd_of_mul_dvd_mul_left hg ?_)
      rw [Nat.mul_comm, e1, ← Nat.mul_assoc, Nat.mul_comm (Nat.gcd ln n), e2]
      exact q
    · rintro ⟨t, rfl⟩
      refine ⟨n / Nat.gcd ln n * t, ?_⟩
      have key : ∀ A C G t : Nat, A * G * (C * t) = C * G * (A * t) := fun A C G t => by rw [Nat.mul_mul_mul_comm A G C t, Nat.mul_mul_mul_comm C G A t, Nat.mul_comm A C]
      have k2 := key (n / Nat.gcd ln n) (ln / Nat.gcd ln n) (Nat.gcd ln n) t
      rw [e2, e1] at k2
      exact k2
  rw [cn_div hd]
  have hq : 0 < ln / Nat.gcd ln n := Nat.pos_of_ne_zero (fun z => by rw [z, Nat.zero_mul] at e1; omega)
  generalize ln / Nat.gcd ln n = d at e1 hq
  generalize Nat.gcd ln n = g at e1 hg
  obtain ⟨g', rfl⟩ : ∃ g', g = g' + 1 := ⟨g - 1, by omega⟩
  have e3 : ln - 1 = (d - 1) + d * g' := by rw [← e1, Nat.mul_add, Nat.mul_one]; omega
  rw [e3, Nat.add_mul_div_left _ _ hq, Nat.div_eq_of_lt (by omega)]
  omega
theorem A_mi {X : Nat → Nat → Nat} {M : Nat → Nat} {B s n w : Nat} (h : SR X M) (m : MI M B) (hs : s < 4) (hn1 : 1 ≤ n) (hn : n ≤ 12) : miX X s n w = miA M s n w := by
  have hb := mSt_le m.1.1 m.1.2.1 m.1.2.2.2 hs
  obtain ⟨⟨-, h1, -, h4, h5, -⟩, h7⟩ := h
  unfold miX miA
  rw [(h4 s hs).1, (h7 s hs).2, h5 (s * 12 + n - 1) (by omega), am_i2 hn1]
  by_cases c0 : w = 0
  · rw [if_pos c0, if_pos c0]
  · rw [if_neg c0, if_neg c0]
    by_cases c1 : w = 1
    · rw [if_pos c1, if_pos c1]; rfl
    · rw [if_neg c1, if_neg c1, show 2519 - mSt M s = 2520 - mSt M s - 1 by omega, cn_gcd hn1 (by omega)]
theorem A_bt {X : Nat → Nat → Nat} {M : Nat → Nat} {a n b l : Nat} (h : SR X M) (ha : a < 4) (hb : b < 4) (hn1 : 1 ≤ n) (hn : n ≤ 12) (hl1 : 1 ≤ l) (hl : l ≤ 12) : beatV (X 3) (X 8) (X 9) (X 12 4) a n b l = beatV (mT M) (mSt M) (mAm M) (M 8) a n b l := by
  obtain ⟨⟨-, h1, -, h4, h5, -⟩, h7⟩ := h
  unfold beatV pitch
  rw [(h4 a ha).1, (h4 b hb).1, (h7 a ha).2, (h7 b hb).2, h1 4 (by omega), h5 (a * 12 + n - 1) (by omega), h5 (b * 12 + l - 1) (by omega)]
theorem A_sl {X : Nat → Nat → Nat} {M : Nat → Nat} {a b : Nat} (h : SR X M) (ha : a < 4) (hb : b < 4) : ∀ c, c ≤ 144 → slL (X 3) (X 8) (X 9) (X 12 4) a b c = slL (mT M) (mSt M) (mAm M) (M 8) a b c
  | 0, _ => rfl
  | c + 1, hc => by
    simp only [slL]
    rw [A_sl h ha hb c (by omega), A_bt h ha hb (by omega) (by omega) (by omega) (by omega)]
theorem A_tt {X : Nat → Nat → Nat} {M : Nat → Nat} {B s n : Nat} (h : SR X M) (m : MI M B) (hs : s < 4) (hn1 : 1 ≤ n) (hn : n ≤ 12) : ttu (X 12 4) (X 12 0) (X 12 1) (X 12 2) n (dmp (X 5) (X 8) s n) 2001 0 (X 9 (s * 12 + n - 1)) = ttu (M 8) (M 4) (M 5) (M 6) n (mdm M s n) 2001 0 (M (61 + 12 * s + n - 1)) := by
  have h1 := h.1.2.1
  have h5 := h.1.2.2.2.2.1
  rw [dmp_e h m hs, h1 4 (by omega), h1 0 (by omega), h1 1 (by omega), h1 2 (by omega), h5 _ (by omega), am_i2 hn1]
theorem A_py {X : Nat → Nat → Nat} {M : Nat → Nat} {B k w : Nat} (h : SR X M) (m : MI M B) (hk : k < M 3) (hw : w ≤ 2) : plX X k w = M (109 + 3 * k + w) := by
  obtain ⟨q1, q2, -⟩ := h.1.2.2.2.2.2.1 k hk
  have hb := (m.2.2.2.2.2.2.1 k hk).2
  unfold plX
  by_cases c0 : w = 0
  · subst c0
    rw [if_pos rfl, q1]
    show _ = M (109 + 3 * k)
    omega
  · rw [if_neg c0]
    by_cases c1 : w = 1
    · subst c1; rw [if_pos rfl, q1]; omega
    · rw [if_neg c1, q2, show w = 2 by omega]
theorem bz_e {X : Nat → Nat → Nat} {M : Nat → Nat} (h : SR X M) : ∀ k, k ≤ 4 → bzL (X 7) (X 4) k = osL M 3 k
  | 0, _ => rfl
  | k + 1, hk => by
    simp only [bzL, osL]
    rw [bz_e h k (by omega), (h.2 k (by omega)).1, (h.1.2.2.2.1 k (by omega)).2.1, if_neg (show ¬ 3 = 5 by omega)]
theorem sp_e {X : Nat → Nat → Nat} {M : Nat → Nat} (h : SR X M) : ∀ k, k ≤ 4 → sumP (X 6) k = osL M 5 k
  | 0, _ => rfl
  | k + 1, hk => by
    simp only [sumP, osL]
    rw [sp_e h k (by omega), (h.1.2.2.2.1 k (by omega)).2.2.2, if_pos trivial]
    rfl
theorem A_ct {X : Nat → Nat → Nat} {M : Nat → Nat} {hz len k : Nat} (h : SR X M) : ctX X hz len (bzL (X 7) (X 4) 4) (sumP (X 6) 4) k = ctA M hz len k := by
  rw [bz_e h 4 (Nat.le_refl _), sp_e h 4 (Nat.le_refl _)]
  obtain ⟨⟨⟨a0, a3, a1, a2⟩, h1, -, -, h5, -⟩, -⟩ := h
  unfold ctX ctA
  rw [hrL_c h5 4 (Nat.le_refl _), h1 4 (by omega), a0, a1, a2, a3]
  by_cases c0 : k = 0
  · subst c0; rw [if_pos rfl, if_pos (by omega)]
  · rw [if_neg c0]
    by_cases c1 : k = 1
    · subst c1; rw [if_pos rfl, if_pos (by omega)]
    · rw [if_neg c1, if_neg (show ¬ k < 2 by omega)]
      by_cases c2 : k = 2
      · rw [if_pos c2, if_pos c2]
      · rw [if_neg c2, if_neg c2]
        by_cases c3 : k = 3
        · rw [if_pos c3, if_pos c3]
        · rw [if_neg c3, if_neg c3]
          by_cases c4 : k = 4
          · rw [if_pos c4, if_pos c4]
          · rw [if_neg c4, if_neg c4]
            by_cases c5 : k = 5
            · rw [if_pos c5, if_pos c5]
            · rw [if_neg c5, if_neg c5]
              by_cases c6 : k = 6
              · rw [if_pos c6, if_pos c6]
              · rw [if_neg c6, if_neg c6]
                by_cases c7 : k < 12
                · rw [if_pos c7, if_pos c7, h1 (k - 7) (by omega)]
                · rw [if_neg c7, if_neg c7]
