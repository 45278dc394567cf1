/-! ===== frets in order; rows kept; a text played; the start ===== -/
def SO (M : Nat → Nat) : Prop := ∀ i j, i < j → j < M 0 → mP M i < mP M j
theorem SO_of {M N : Nat → Nat} (hn : M 0 ≤ 12) (e0 : N 0 = M 0) (e : ∀ i, i < 12 → N (9 + 3 * i + 0) = M (9 + 3 * i + 0)) (h : SO M) : SO N := by
  intro i j hij hj
  rw [e0] at hj
  unfold mP
  rw [e i (by omega), e j (by omega)]
  exact h i j hij hj
theorem MI_c {M N : Nat → Nat} {B : Nat} (h : MI M B) (e : ∀ i, i < 265 → N i = M i) : MI N B := by
  obtain ⟨nk, ⟨a1, a2, a3⟩, ⟨b1, b2, b3, b4, b5⟩, c1, c2, n1, n2, n3, n4⟩ := h
  refine ⟨NK_of nk (fun i q => e i (by omega)), ⟨fun i hi => ?_, fun i hi => ?_, fun i hi => ?_⟩, ⟨?_, ?_, ?_, ?_, ?_⟩, ?_, fun i hi => ?_, ?_, fun k hk => ?_, fun j k hj hk => ?_, fun i hi => ?_⟩
  · have := a1 i hi; unfold mFi at *; rw [e _ (by omega)]; exact this
  · have := a2 i hi; unfold mT at *; rw [e _ (by omega)]; exact this
  · have := a3 i hi; unfold mAm at *; rw [e _ (by omega)]; exact this
  · rw [e 4 (by omega)]; exact b1
  · rw [e 5 (by omega)]; exact b2
  · rw [e 6 (by omega)]; exact b3
  · rw [e 7 (by omega)]; exact b4
  · rw [e 8 (by omega)]; exact b5
  · rw [e 1 (by omega)]; exact c1
  · have := c2 i hi; unfold mW at *; rw [e _ (by omega)]; exact this
  · rw [e 3 (by omega)]; exact n1
  · rw [e 3 (by omega)] at hk; rw [e _ (by omega), e _ (by omega)]; exact n2 k hk
  · rw [e 3 (by omega)] at hk; rw [e _ (by omega), e _ (by omega), e _ (by omega), e _ (by omega)]; exact n3 j k hj hk
  · rw [e _ (by omega)]; exact n4 i hi
theorem MI_le {M : Nat → Nat} {B C : Nat} (h : MI M B) (hC : B ≤ C) : MI M C := by
  obtain ⟨nk, a, b, c1, c2, n1, n2, n3, n4⟩ := h
  exact ⟨nk, a, b, c1, fun i hi => Nat.le_trans (c2 i hi) hC, n1, n2, n3, fun i hi => Nat.le_trans (n4 i hi) hC⟩
/-- the reference's row: small and in order -/
def MJ (M : Nat → Nat) (B : Nat) : Prop := MI M B ∧ SO M
theorem MJ_c {M N : Nat → Nat} {B : Nat} (h : MJ M B) (e : ∀ i, i < 265 → N i = M i) : MJ N B := ⟨MI_c h.1 e, SO_of h.1.1.1 (e 0 (by omega)) (fun i hi => e _ (by omega)) h.2⟩
theorem MJ_le {M : Nat → Nat} {B C : Nat} (h : MJ M B) (hC : B ≤ C) : MJ M C := ⟨MI_le h.1 hC, h.2⟩
theorem MJ_ps {M Sd : Nat → Nat} {B s f : Nat} (h : MJ M B) (hs : s < 4) (hf : f ≤ M 0) : MJ (mvL (va_up M (45 + 4 * s + 1) f) (sdL M Sd 4) 4) B :=
  ⟨MI_ps h.1 hs hf, SO_of h.1.1.1 (by rw [mvL_lo _ _ _ _ (by omega)]; exact if_neg (by omega)) (fun i hi => by rw [mvL_lo _ _ _ _ (by omega)]; exact if_neg (by omega)) h.2⟩
theorem pk6_P {M Sd : Nat → Nat} {s y q i : Nat} (hs : s < 4) (k : NK M) (hi : i < 12) : pk6 M Sd s y q (9 + 3 * i + 0) = M (9 + 3 * i + 0) := by
  have e3 : pk3 M s y q (9 + 3 * i + 0) = M (9 + 3 * i + 0) := pk3_lo (by omega) (by omega) (by omega)
  have e5 : pk5 M s y q (9 + 3 * i + 0) = pk3 M s y q (9 + 3 * i + 0) := by
    unfold pk5
    split
    · unfold pk4; exact wrA_ne (by omega) (by omega) (by omega)
    · rw [wrA_ne (by omega) (by omega) (by omega)]; unfold pk4; exact wrA_ne (by omega) (by omega) (by omega)
  unfold pk6
  split
  · exact e3
  · rw [mvL_lo _ _ _ _ (by omega), e5]; exact e3
theorem MJ_pk {M Sd : Nat → Nat} {B s y q : Nat} (h : MJ M B) (hs : s < 4) (hq : q ≤ 1000) : MJ (pk6 M Sd s y q) (B + 2000) :=
  ⟨MI_pk h.1 hs hq, SO_of h.1.1.1 (by rw [pk6_lo hs h.1.1 (by omega)]; exact pk3_lo (by omega) (by omega) (by omega)) (fun i hi => pk6_P hs h.1.1 hi) h.2⟩
theorem MJ_gn {M : Nat → Nat} {B k : Nat} (h : MJ M B) (hk : M 1 + k ≤ 100000) : MJ (va_up (gnL M k 48) 1 (M 1 + k)) B :=
  ⟨MI_gn h.1 hk, SO_of h.1.1.1 (by rw [show va_up (gnL M k 48) 1 (M 1 + k) 0 = gnL M k 48 0 from if_neg (by omega)]; exact gnL_lo _ _ _ _ (by omega)) (fun i hi => by rw [show va_up (gnL M k 48) 1 (M 1 + k) (9 + 3 * i + 0) = gnL M k 48 (9 + 3 * i + 0) from if_neg (by omega)]; exact gnL_lo _ _ _ _ (by omega)) h.2⟩
theorem MJ_tu {M : Nat → Nat} {B s w : Nat} (h : MJ M B) (hs : s < 4) (hw : w ≤ 100000000) : MJ (va_up M (45 + 4 * s + 0) w) B := ⟨MI_tu h.1 hs hw, SO_of h.1.1.1 (if_neg (by omega)) (fun i hi => if_neg (by omega)) h.2⟩
theorem MJ_to {M : Nat → Nat} {B s w : Nat} (h : MJ M B) (hs : s < 4) (hw : w ≤ 2519) : MJ (va_up M (45 + 4 * s + 2) w) B := ⟨MI_to h.1 hs hw, SO_of h.1.1.1 (if_neg (by omega)) (fun i hi => if_neg (by omega)) h.2⟩
theorem MJ_da {M : Nat → Nat} {B s : Nat} (h : MJ M B) (hs : s < 4) : MJ (mq M s 12) B := ⟨MI_da h.1 hs, SO_of h.1.1.1 (if_neg (by omega)) (fun i hi => if_neg (by omega)) h.2⟩
theorem MJ_se {M : Nat → Nat} {B k w : Nat} (h : MJ M B) (hk : k < 5) (hw : stO k w) : MJ (va_up M (4 + k) w) B := ⟨MI_se h.1 hk hw, SO_of h.1.1.1 (if_neg (by omega)) (fun i hi => if_neg (by omega)) h.2⟩
theorem MJ_lv {M Sd : Nat → Nat} {B f v : Nat} (h : MJ M B) (hf1 : 1 ≤ f) (hf : f ≤ M 0) (hv : v ≤ 2000) : MJ (mvL (lvM M f v) (sdL M Sd 4) 4) B := by
  have hn := h.1.1.1
  refine ⟨MI_lv h.1 hf1 (by omega) hv, SO_of hn ?_ (fun i hi => ?_) h.2⟩
  · rw [mvL_lo _ _ _ _ (by omega)]; unfold lvM; simp only [va_up]; rw [if_neg (by omega), if_neg (by omega)]
  · rw [mvL_lo _ _ _ _ (by omega)]; unfold lvM; simp only [va_up]; rw [if_neg (by omega), if_neg (by omega)]
theorem insI_sp {P : Nat → Nat} {x : Nat} : ∀ n, insI P x n ≤ n ∧ (∀ i, insI P x n ≤ i → i < n → x < P i) ∧ (insI P x n = 0 ∨ P (insI P x n - 1) ≤ x)
  | 0 => ⟨Nat.le_refl _, fun i _ h => absurd h (by omega), Or.inl rfl⟩
  | n + 1 => by
    obtain ⟨h1, h2, h3⟩ := insI_sp (P := P) (x := x) n
    simp only [insI]
    by_cases c : x < P n
    · rw [if_pos c]
      refine ⟨by omega, fun i a b => ?_, h3⟩
      rcases Nat.lt_or_ge i n with z | z
      · exact h2 i a z
      · obtain rfl : i = n := (by omega)
        exact c
    · rw [if_neg c]
      exact ⟨Nat.le_refl _, fun i a b => absurd b (by omega), Or.inr (by rw [Nat.add_sub_cancel]; omega)⟩
theorem MJ_fr {M Sd : Nat → Nat} {B y v : Nat} (h : MJ M B) (hn : M 0 < 12) (hy : y ≤ 2400) (hv : v ≤ 2000) (hf : ∀ i, i < M 0 → mP M i ≠ y) : MJ (mvL (frM M y v) (sdL M Sd 4) 4) B := by
  refine ⟨MI_fr h.1 hn hy hv, fun i j hij hj => ?_⟩
  have e0 : mvL (frM M y v) (sdL M Sd 4) 4 0 = M 0 + 1 := by rw [mvL_lo _ _ _ _ (by omega)]; exact frM_0
  have e : ∀ i, i < 12 → mP (mvL (frM M y v) (sdL M Sd 4) 4) i = insA (mP M) (M 0) (insI (mP M) y (M 0)) y i := fun i hi => by
    unfold mP
    rw [mvL_lo _ _ _ _ (by omega), frM_w hn hi (by omega), if_pos rfl]
    rfl
  rw [e0] at hj
  rw [e i (by omega), e j (by omega)]
  obtain ⟨k1, k2, k3⟩ := insI_sp (P := mP M) (x := y) (M 0)
  have hs := h.2
  generalize insI (mP M) y (M 0) = k at k1 k2 k3
  simp only [insA, va_up, shf]
  by_cases ci : i = k
  · rw [if_pos ci, if_neg (by omega), if_pos (by omega)]
    exact k2 (j - 1) (by omega) (by omega)
  · rw [if_neg ci]
    by_cases cj : j = k
    · rw [if_pos cj, if_neg (by omega)]
      have h1 : mP M (k - 1) ≤ y := k3.resolve_left (by omega)
      have h2 := hf (k - 1) (by omega)
      rcases Nat.lt_or_ge i (k - 1) with z | z
      · have := hs i (k - 1) z (by omega); omega
      · rw [show i = k - 1 by omega]; omega
    · rw [if_neg cj]
      by_cases c1 : k < i
      · rw [if_pos ⟨c1, by omega⟩, if_pos ⟨by omega, by omega⟩]
        exact hs (i - 1) (j - 1) (by omega) (by omega)
      · rw [if_neg (fun q => c1 q.1)]
        by_cases c2 : k < j
        · rw [if_pos ⟨c2, by omega⟩]
          rcases Nat.lt_or_ge i (j - 1) with z | z
          · exact hs i (j - 1) z (by omega)
          · omega
        · rw [if_neg (fun q => c2 q.1)]
          exact hs i j hij (by omega)
/-! play -/
theorem ok_len {Ch : Nat → Nat} {len p : Nat} (h : okN Ch len p) : p < len := by
  have h1 := h.1
  rcases Nat.lt_or_ge p len with q | q
  · exact q
  · exfalso
    apply h1
    have e : sgn Ch len p = 0 := by unfold sgn; rw [if_neg (by omega)]
    simp only [nD]
    rw [e, if_neg (by omega)]
set_option maxRecDepth 16384 in
theorem SR_py {Ch Sd : Nat → Nat} {len : Nat} : ∀ (k : Nat) (X : Nat → Nat → Nat) (M Sd : Nat → Nat) (p B : Nat), SR X M → MJ M B → B + 2000 * k ≤ 500000000 → (ffN Ch len (M 0) k p (M 1)).1 = 0 →
    gdX Ch len k X p ∧ (plS Ch len k X p).2 = (plL Ch len k M Sd p).2.2 ∧ SR (plS Ch len k X p).1 (plL Ch len k M Sd p).1 ∧ MJ (plL Ch len k M Sd p).1 (B + 2000 * k)
  | 0, X, M, Sd, p, B, h, m, hB, _ => ⟨SR_XB h m.1 (by omega), rfl, h, m⟩
  | k + 1, X, M, Sd, p, B, h, m, hB, hf => by
    by_cases c : p < len
    · have hrs : rsN Ch len p (M 0) (M 1) = 0 := by
        rcases Nat.eq_zero_or_pos (rsN Ch len p (M 0) (M 1)) with q | q
        · exact q
        · simp only [ffN] at hf
          rw [if_pos c, if_neg (by omega)] at hf
          exact hf
      obtain ⟨hok, hfv, hqv, htv, htt⟩ := rs_fx hrs
      have hsa : a0 Ch len p < 4 := by have := hok.2.1; omega
      have r1 := SR_pr (Sd := Sd) h m.1 hsa hfv
      have m1 := MJ_ps (Sd := Sd) m hsa hfv
      have r2 := SR_pk (Sd := sdL M Sd 4) (y := 2460) r1 m1.1 hsa hqv.2
      have m2 := MJ_pk (Sd := sdL M Sd 4) (y := 2460) m1 hsa hqv.2
      have e1 : pyB Ch len M Sd p 1 = M 1 := py_lo hsa m1.1.1 (Or.inr rfl)
      have r3 := SR_lg (t := tV Ch len p) r2 m2.1
      have m3 := MJ_gn (k := tV Ch len p) m2 (by show pyB Ch len M Sd p 1 + _ ≤ _; rw [e1]; exact htt)
      have hff : (ffN Ch len (pyM Ch len M Sd p 0) k (e3 Ch len p + 1) (pyM Ch len M Sd p 1)).1 = 0 := by
        rw [py_0 hsa m1.1.1, py_1 hsa m1.1.1]
        simp only [ffN] at hf
        rw [if_pos c, if_pos hrs] at hf
        exact hf
      obtain ⟨i1, i2, i3, i4⟩ := SR_py (Ch := Ch) (Sd := Sd) (len := len) k (pyX Ch len X p) (pyM Ch len M Sd p) (pyD Ch len M Sd p) (e3 Ch len p + 1) (B + 2000) r3 m3 (by omega) hff
      refine ⟨⟨SR_XB h m.1 (by omega), fun _ => ⟨SR_XB r1 m1.1 (by omega), SR_XB r2 m2.1 (by omega), i1⟩⟩, ?_, ?_, ?_⟩
      · simp only [plS, plL]
        rw [if_pos hok, if_pos c]
        show _ + 1 = _ + 1
        rw [i2]
      · simp only [plS, plL]
        rw [if_pos hok, if_pos c]
        exact i3
      · simp only [plL]
        rw [if_pos c]
        exact MJ_le i4 (by omega)
    · have hno : ¬ okN Ch len p := fun q => c (ok_len q)
      refine ⟨⟨SR_XB h m.1 (by omega), fun q => absurd q hno⟩, ?_, ?_, ?_⟩
      · simp only [plS, plL]
        rw [if_neg hno, if_neg c]
      · simp only [plS, plL]
        rw [if_neg hno, if_neg c]
        exact h
      · simp only [plL]
        rw [if_neg c]
        exact MJ_le m (by omega)
/-! history -/
def rowP (Pa : Nat → Nat) (k : Nat) : Nat → Nat := fun i => Pa (265 * k + i)
def SH (hz old : Nat) (XA XB XC XD : Nat → Nat → Nat) (Pa : Nat → Nat) (B : Nat) : Prop := ∀ k, k < hz → SR (gbX ((old + k) % 4) XA XB XC XD) (rowP Pa k) ∧ MJ (rowP Pa k) B
theorem gb_kp {old hz j : Nat} {X XA XB XC XD A B C D : Nat → Nat → Nat} (h : KP old hz X XA XB XC XD A B C D) (hj : j < 4) : gbX j A B C D = if kpI old hz = j then X else gbX j XA XB XC XD := by
  obtain ⟨rfl, rfl, rfl, rfl⟩ := h
  obtain rfl | rfl | rfl | rfl : j = 0 ∨ j = 1 ∨ j = 2 ∨ j = 3 := by omega
  all_goals simp [gbX, kpX]
theorem SH_le {hz old B C : Nat} {XA XB XC XD : Nat → Nat → Nat} {Pa : Nat → Nat} (h : SH hz old XA XB XC XD Pa B) (hC : B ≤ C) : SH hz old XA XB XC XD Pa C := fun k hk => ⟨(h k hk).1, MJ_le (h k hk).2 hC⟩
theorem SH_kp {hz old B : Nat} {X XA XB XC XD XA9 XB9 XC9 XD9 : Nat → Nat → Nat} {Pa M : Nat → Nat} (h : SH hz old XA XB XC XD Pa B) (r : SR X M) (m : MJ M B) (hz4 : hz ≤ 4) (ho : old ≤ 3) (hk : KP old hz X XA XB XC XD XA9 XB9 XC9 XD9) : SH (kpS hz) (kpO old hz) XA9 XB9 XC9 XD9 (rcP Pa M hz) B := by
  intro k hk2
  have sc : ∀ {Y : Nat → Nat → Nat} {P Q : Nat → Nat}, SR Y P → MJ P B → (∀ i, i < 265 → Q i = P i) → SR Y Q ∧ MJ Q B := fun a b c => ⟨SR_c b.1.1 b.1.2.2.2.2.2.1 c a, MJ_c b c⟩
  rw [gb_kp hk (Nat.mod_lt _ (by omega))]
  unfold kpS at hk2
  unfold kpI kpO
  by_cases c : hz < 4
  · rw [if_pos c] at hk2
    rw [if_pos c, if_pos c]
    by_cases ck : k = hz
    · subst ck
      rw [if_pos rfl]
      refine sc r m (fun i hi => ?_)
      unfold rowP rcP
      rw [if_neg (by omega)]
      simp only [rcB]
      rw [if_pos (by omega), Nat.add_sub_cancel_left]
    · have hlt : k < hz := by omega
      rw [if_neg (by omega)]
      refine sc (h k hlt).1 (h k hlt).2 (fun i hi => ?_)
      unfold rowP rcP
      rw [if_neg (by omega)]
      simp only [rcB]
      rw [if_neg (by omega)]
  · have hz9 : hz = 4 := by omega
    subst hz9
    rw [if_neg c] at hk2
    rw [if_neg c, if_neg c]
    by_cases ck : k = 3
    · subst ck
      rw [if_pos (by omega)]
      refine sc r m (fun i hi => ?_)
      unfold rowP rcP
      rw [if_pos rfl]
      simp only [rcB]
      rw [if_pos (by omega), show 265 * 3 + i - 795 = i by omega]
    · rw [if_neg (by omega), show ((old + 1) % 4 + k) % 4 = (old + (k + 1)) % 4 by omega]
      have := h (k + 1) (by omega)
      refine sc this.1 this.2 (fun i hi => ?_)
      unfold rowP rcP
      rw [if_pos rfl]
      simp only [rcB, rcA]
      rw [if_neg (by omega), if_pos (by omega), show 265 * k + i + 265 = 265 * (k + 1) + i by omega]
theorem SH_un {hz old B : Nat} {XA XB XC XD : Nat → Nat → Nat} {Pa M : Nat → Nat} (h : SH hz old XA XB XC XD Pa B) (h0 : 0 < hz) : SR (gbX ((old + (hz - 1)) % 4) XA XB XC XD) (unM M Pa (265 * (hz - 1)) 265) ∧ MJ (unM M Pa (265 * (hz - 1)) 265) B ∧ SH (hz - 1) old XA XB XC XD Pa B := by
  obtain ⟨a, b⟩ := h (hz - 1) (by omega)
  have e : ∀ i, i < 265 → unM M Pa (265 * (hz - 1)) 265 i = rowP Pa (hz - 1) i := fun i hi => if_pos hi
  exact ⟨SR_c b.1.1 b.1.2.2.2.2.2.1 e a, MJ_c b e, fun k hk => h k (by omega)⟩
/-! the start -/
theorem iM_lo {i : Nat} (h : i ≠ 4 ∧ i ≠ 5 ∧ i ≠ 6 ∧ i ≠ 7 ∧ i ≠ 8 ∧ i ≠ 45 ∧ i ≠ 49 ∧ i ≠ 53 ∧ i ≠ 57) : iM i = 0 := by
  unfold iM
  simp only [va_up]
  rw [if_neg (by omega), if_neg (by omega), if_neg (by omega), if_neg (by omega), if_neg (by omega), if_neg (by omega), if_neg (by omega), if_neg (by omega), if_neg (by omega)]
  rfl
theorem SR_init : SR iX iM := by
  have es : ∀ i, i < 4 → mSo iM i = 0 := fun i hi => by
    unfold mSo srcN
    rw [if_pos (by unfold mPr; exact iM_lo (by omega))]
  refine ⟨⟨⟨(iM_lo (by omega)).symm, (iM_lo (by omega)).symm, (iM_lo (by omega)).symm, (iM_lo (by omega)).symm⟩, fun i hi => ?_, fun i hi => ⟨?_, ?_, ?_⟩, fun i hi => ⟨?_, ?_, ?_, ?_⟩, fun i hi => ?_, fun k hk => ?_, fun i hi q => rfl, fun i hi => ?_⟩, fun i hi => ⟨(es i hi).symm, ?_⟩⟩
  · obtain rfl | rfl | rfl | rfl | rfl : i = 0 ∨ i = 1 ∨ i = 2 ∨ i = 3 ∨ i = 4 := by omega
    all_goals rfl
  · exact (iM_lo (by omega)).symm
  · exact (iM_lo (by omega)).symm
  · exact (iM_lo (by omega)).symm
  · obtain rfl | rfl | rfl | rfl : i = 0 ∨ i = 1 ∨ i = 2 ∨ i = 3 := by omega
    all_goals rfl
  · exact (iM_lo (by omega)).symm
  · exact (iM_lo (by omega)).symm
  · exact (iM_lo (by omega)).symm
  · exact (iM_lo (by omega)).symm
  · rw [iM_lo (by omega)] at hk; omega
  · show (0 : Nat) < 52; omega
  · unfold mSt; rw [es i hi]; rfl
theorem MJ_init : MJ iM 0 := by
  have e0 : iM 0 = 0 := iM_lo (by omega)
  have e3 : iM 3 = 0 := iM_lo (by omega)
  refine ⟨⟨⟨by rw [e0]; omega, fun i hi => ?_, fun i hi => ?_, fun i hi => ?_⟩, ⟨fun i hi => ?_, fun i hi => ?_, fun i hi => ?_⟩, ⟨by decide, by decide, by decide, by decide, by decide⟩, by rw [iM_lo (by omega)]; omega, fun i hi => ?_, by rw [e3]; omega, fun k hk => ?_, fun j k hj hk => ?_, fun i hi => ?_⟩, fun i j hij hj => ?_⟩
  · unfold mP; rw [iM_lo (by omega)]; omega
  · unfold mH; rw [iM_lo (by omega)]; omega
  · unfold mPr; rw [iM_lo (by omega)]; omega
  · unfold mFi; rw [iM_lo (by omega)]; omega
  · obtain rfl | rfl | rfl | rfl : i = 0 ∨ i = 1 ∨ i = 2 ∨ i = 3 := by omega
    all_goals decide
  · unfold mAm; rw [iM_lo (by omega)]; omega
  · unfold mW; rw [iM_lo (by omega)]; omega
  · rw [e3] at hk; omega
  · rw [e3] at hk; omega
  · rw [iM_lo (by omega)]; omega
  · rw [e0] at hj; omega
