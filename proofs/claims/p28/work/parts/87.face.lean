/-! ===== each call over the object as one thing ===== -/
def frX (X : Nat → Nat → Nat) (y z : Nat) : Nat → Nat → Nat := seX (mkX (insA (X 0) (X 13 0) (insI (X 0) y (X 13 0)) y) (insA (X 1) (X 13 0) (insI (X 0) y (X 13 0)) z) (insA (X 2) (X 13 0) (insI (X 0) y (X 13 0)) 0) (X 3) (mrfL (X 4) (insI (X 0) y (X 13 0) + 1) 4) (X 5) (X 6) (X 7) (X 8) (X 9) (X 10) (X 11) (X 12) (X 13 0 + 1) (X 13 1) (X 13 2) (X 13 3))
def lvX (X : Nat → Nat → Nat) (f y : Nat) : Nat → Nat → Nat := seX (mkX (X 0) (va_up (X 1) (f - 1) y) (va_up (X 2) (f - 1) 0) (X 3) (X 4) (X 5) (X 6) (X 7) (X 8) (X 9) (X 10) (X 11) (X 12) (X 13 0) (X 13 1) (X 13 2) (X 13 3))
def tuX (X : Nat → Nat → Nat) (s w : Nat) : Nat → Nat → Nat := mkX (X 0) (X 1) (X 2) (va_up (X 3) s w) (X 4) (X 5) (X 6) (X 7) (X 8) (X 9) (X 10) (X 11) (X 12) (X 13 0) (X 13 1) (X 13 2) (X 13 3)
def toX (X : Nat → Nat → Nat) (s w : Nat) : Nat → Nat → Nat := mkX (X 0) (X 1) (X 2) (X 3) (X 4) (va_up (X 5) s w) (X 6) (X 7) (X 8) (X 9) (X 10) (X 11) (X 12) (X 13 0) (X 13 1) (X 13 2) (X 13 3)
def daX (X : Nat → Nat → Nat) (s : Nat) : Nat → Nat → Nat := mkX (X 0) (X 1) (X 2) (X 3) (X 4) (X 5) (X 6) (X 7) (X 8) (qzL (X 9) s 12) (X 10) (X 11) (X 12) (X 13 0) (X 13 1) (X 13 2) (X 13 3)
def seK (X : Nat → Nat → Nat) (k w : Nat) : Nat → Nat → Nat := mkX (X 0) (X 1) (X 2) (X 3) (X 4) (X 5) (X 6) (X 7) (X 8) (X 9) (X 10) (X 11) (va_up (X 12) k w) (X 13 0) (X 13 1) (X 13 2) (X 13 3)
theorem pm_t {α : Type} (a b c : List α) : ((a ++ b) ++ c).Perm ((a ++ c) ++ b) := by
  rw [List.append_assoc, List.append_assoc]
  exact List.Perm.append_left a List.perm_append_comm
theorem pm_p {α : Type} (a b c : List α) : ((a ++ b) ++ c).Perm ((a ++ (c ++ b)) ++ []) := by
  rw [List.append_assoc, List.append_nil]
  exact List.Perm.append_left a List.perm_append_comm
theorem can_p {k w : Nat} (h : stO k w) : canP (nI k) (nI w) := by
  rcases h with ⟨rfl | rfl, h⟩ | ⟨rfl, h⟩ | ⟨rfl, h1, h2⟩ | ⟨rfl, h⟩
  · exact Or.inl ⟨Or.inl rfl, nI_le (Nat.zero_le _) (by omega), nI_le h (by omega)⟩
  · exact Or.inl ⟨Or.inr rfl, nI_le (Nat.zero_le _) (by omega), nI_le h (by omega)⟩
  · exact Or.inr (Or.inl ⟨rfl, nI_le (Nat.zero_le _) (by omega), nI_le h (by omega)⟩)
  · exact Or.inr (Or.inr (Or.inl ⟨rfl, nI_le h1 (by omega), nI_le h2 (by omega)⟩))
  · exact Or.inr (Or.inr (Or.inr ⟨rfl, nI_le (Nat.zero_le _) (by omega), nI_le h (by omega)⟩))

set_option maxHeartbeats 2000000 in
set_option maxRecDepth 100000 in
theorem U_fret_i (l : Launch) (E : zE) (tm tl : Nat) (D : Nat → Prop) (fs : Nat) (o : oS) (xb : XB o.1) (a v : Int32) (hb : ¬ ((nI 1 ≤ a ∧ a ≤ nI 2400) ∧ (nI 0 ≤ v ∧ v ≤ nI 2000))) : oM l yX6_fret wsX6_fret ({ frames := 7, cells := 0, slots := 0, locals := 159 }) E tm tl D fs [.ref fs, .int a, .int v] o (fun r o9 => r = -1 ∧ o9 = o) := by
  obtain ⟨X, hl, len, Ch⟩ := o
  try dsimp only at *
  refine oM_of (fun H hO => ?_)
  obtain ⟨sc, hi, ch, rw, ad, adA, adB, adC, adD, old, pl, fp, YA, YB, YC, YD, st, fr, fo, ti, to, hq, hP, hD⟩ := hO
  refine ⟨_, oT E sc ch len pl fp st fr fo ti to Ch, _, _, List.Perm.refl _, hP, hD, c_X6_fret l E fs sc hi rw hl.length old a v adA adB adC adD ad YA YB YC YD X hq.1 hq.2.1 xb.1 xb.2.1 xb.2.2.1 xb.2.2.2.2.2.1 xb.2.2.2.2.2.2.2.2.1, fun r w9 hp => ?_⟩
  rcases hp with ⟨rfl, g6, rfl⟩ | ⟨y9, z9, rfl, ⟨ea, ev, g1, g2, g3, g4⟩, rfl⟩ | ⟨y9, z9, rfl, ⟨ea, ev, g1, g2, g3, g4, g5⟩, rfl⟩ | ⟨y9, z9, A9, B9, C9, D9, rfl, ⟨ea, ev, g1, g2, g3, g4, g5, kp⟩, rfl⟩
  · exact ⟨(X, hl, len, Ch), ⟨rfl, rfl⟩, fun H9 hP hD => ⟨sc, hi, ch, rw, ad, adA, adB, adC, adD, old, pl, fp, YA, YB, YC, YD, st, fr, fo, ti, to, hq, hP, hD⟩⟩
  · exact absurd ⟨nB ea (by omega) (by omega) (by omega), nB ev (by omega) (by omega) (by omega)⟩ hb
  · exact absurd ⟨nB ea (by omega) (by omega) (by omega), nB ev (by omega) (by omega) (by omega)⟩ hb
  · exact absurd ⟨nB ea (by omega) (by omega) (by omega), nB ev (by omega) (by omega) (by omega)⟩ hb

set_option maxHeartbeats 2000000 in
set_option maxRecDepth 100000 in
theorem U_fret_p (l : Launch) (E : zE) (tm tl : Nat) (D : Nat → Prop) (fs : Nat) (o : oS) (xb : XB o.1) (y z : Nat) (hy1 : 1 ≤ y) (hy2 : y ≤ 2400) (hz : z ≤ 2000) (ht : ∃ i, i < o.1 13 0 ∧ o.1 0 i = y) : oM l yX6_fret wsX6_fret ({ frames := 7, cells := 0, slots := 0, locals := 159 }) E tm tl D fs [.ref fs, .int (nI y), .int (nI z)] o (fun r o9 => r = -2 ∧ o9 = o) := by
  obtain ⟨X, hl, len, Ch⟩ := o
  try dsimp only at *
  refine oM_of (fun H hO => ?_)
  obtain ⟨sc, hi, ch, rw, ad, adA, adB, adC, adD, old, pl, fp, YA, YB, YC, YD, st, fr, fo, ti, to, hq, hP, hD⟩ := hO
  refine ⟨_, oT E sc ch len pl fp st fr fo ti to Ch, _, _, List.Perm.refl _, hP, hD, c_X6_fret l E fs sc hi rw hl.length old (nI y) (nI z) adA adB adC adD ad YA YB YC YD X hq.1 hq.2.1 xb.1 xb.2.1 xb.2.2.1 xb.2.2.2.2.2.1 xb.2.2.2.2.2.2.2.2.1, fun r w9 hp => ?_⟩
  rcases hp with ⟨rfl, g6, rfl⟩ | ⟨y9, z9, rfl, ⟨ea, ev, g1, g2, g3, g4⟩, rfl⟩ | ⟨y9, z9, rfl, ⟨ea, ev, g1, g2, g3, g4, g5⟩, rfl⟩ | ⟨y9, z9, A9, B9, C9, D9, rfl, ⟨ea, ev, g1, g2, g3, g4, g5, kp⟩, rfl⟩
  · exact absurd ⟨nB (k := y) rfl hy1 hy2 (by omega), nB (k := z) rfl (Nat.zero_le _) hz (by omega)⟩ g6
  · exact ⟨(X, hl, len, Ch), ⟨rfl, rfl⟩, fun H9 hP hD => ⟨sc, hi, ch, rw, ad, adA, adB, adC, adD, old, pl, fp, YA, YB, YC, YD, st, fr, fo, ti, to, hq, hP, hD⟩⟩
  · obtain rfl := z_inj (by omega) (by omega) ea
    obtain rfl := z_inj (by omega) (by omega) ev
    exact absurd (by obtain ⟨i, h1, h2⟩ := ht; exact ⟨i, h1, congrArg nI h2⟩) g4
  · obtain rfl := z_inj (by omega) (by omega) ea
    obtain rfl := z_inj (by omega) (by omega) ev
    exact absurd (by obtain ⟨i, h1, h2⟩ := ht; exact ⟨i, h1, congrArg nI h2⟩) g4

set_option maxHeartbeats 2000000 in
set_option maxRecDepth 100000 in
theorem U_fret_l (l : Launch) (E : zE) (tm tl : Nat) (D : Nat → Prop) (fs : Nat) (o : oS) (xb : XB o.1) (y z : Nat) (hy1 : 1 ≤ y) (hy2 : y ≤ 2400) (hz : z ≤ 2000) (hn : ∀ i, i < o.1 13 0 → o.1 0 i ≠ y) (h12 : o.1 13 0 = 12) : oM l yX6_fret wsX6_fret ({ frames := 7, cells := 0, slots := 0, locals := 159 }) E tm tl D fs [.ref fs, .int (nI y), .int (nI z)] o (fun r o9 => r = -3 ∧ o9 = o) := by
  obtain ⟨X, hl, len, Ch⟩ := o
  try dsimp only at *
  refine oM_of (fun H hO => ?_)
  obtain ⟨sc, hi, ch, rw, ad, adA, adB, adC, adD, old, pl, fp, YA, YB, YC, YD, st, fr, fo, ti, to, hq, hP, hD⟩ := hO
  refine ⟨_, oT E sc ch len pl fp st fr fo ti to Ch, _, _, List.Perm.refl _, hP, hD, c_X6_fret l E fs sc hi rw hl.length old (nI y) (nI z) adA adB adC adD ad YA YB YC YD X hq.1 hq.2.1 xb.1 xb.2.1 xb.2.2.1 xb.2.2.2.2.2.1 xb.2.2.2.2.2.2.2.2.1, fun r w9 hp => ?_⟩
  rcases hp with ⟨rfl, g6, rfl⟩ | ⟨y9, z9, rfl, ⟨ea, ev, g1, g2, g3, g4⟩, rfl⟩ | ⟨y9, z9, rfl, ⟨ea, ev, g1, g2, g3, g4, g5⟩, rfl⟩ | ⟨y9, z9, A9, B9, C9, D9, rfl, ⟨ea, ev, g1, g2, g3, g4, g5, kp⟩, rfl⟩
  · exact absurd ⟨nB (k := y) rfl hy1 hy2 (by omega), nB (k := z) rfl (Nat.zero_le _) hz (by omega)⟩ g6
  · obtain rfl := z_inj (by omega) (by omega) ea
    obtain rfl := z_inj (by omega) (by omega) ev
    obtain ⟨i, hi9, e9⟩ := g4
    have hx1 := xb.2.1 i (by have := xb.1; omega)
    exact absurd (z_inj (by omega) (by omega) e9) (hn i hi9)
  · exact ⟨(X, hl, len, Ch), ⟨rfl, rfl⟩, fun H9 hP hD => ⟨sc, hi, ch, rw, ad, adA, adB, adC, adD, old, pl, fp, YA, YB, YC, YD, st, fr, fo, ti, to, hq, hP, hD⟩⟩
  · have h12 : X 13 0 = 12 := h12
    omega

set_option maxHeartbeats 2000000 in
set_option maxRecDepth 100000 in
theorem U_fret_y (l : Launch) (E : zE) (tm tl : Nat) (D : Nat → Prop) (fs : Nat) (o : oS) (xb : XB o.1) (y z : Nat) (hy1 : 1 ≤ y) (hy2 : y ≤ 2400) (hz : z ≤ 2000) (hn : ∀ i, i < o.1 13 0 → o.1 0 i ≠ y) (h12 : o.1 13 0 < 12) : oM l yX6_fret wsX6_fret ({ frames := 7, cells := 0, slots := 0, locals := 159 }) E tm tl D fs [.ref fs, .int (nI y), .int (nI z)] o (fun r o9 => r = nI (insI (o.1 0) y (o.1 13 0) + 1) ∧ o9 = okp o (frX o.1 y z)) := by
  obtain ⟨X, hl, len, Ch⟩ := o
  try dsimp only at *
  refine oM_of (fun H hO => ?_)
  obtain ⟨sc, hi, ch, rw, ad, adA, adB, adC, adD, old, pl, fp, YA, YB, YC, YD, st, fr, fo, ti, to, hq, hP, hD⟩ := hO
  refine ⟨_, oT E sc ch len pl fp st fr fo ti to Ch, _, _, List.Perm.refl _, hP, hD, c_X6_fret l E fs sc hi rw hl.length old (nI y) (nI z) adA adB adC adD ad YA YB YC YD X hq.1 hq.2.1 xb.1 xb.2.1 xb.2.2.1 xb.2.2.2.2.2.1 xb.2.2.2.2.2.2.2.2.1, fun r w9 hp => ?_⟩
  rcases hp with ⟨rfl, g6, rfl⟩ | ⟨y9, z9, rfl, ⟨ea, ev, g1, g2, g3, g4⟩, rfl⟩ | ⟨y9, z9, rfl, ⟨ea, ev, g1, g2, g3, g4, g5⟩, rfl⟩ | ⟨y9, z9, A9, B9, C9, D9, rfl, ⟨ea, ev, g1, g2, g3, g4, g5, kp⟩, rfl⟩
  · exact absurd ⟨nB (k := y) rfl hy1 hy2 (by omega), nB (k := z) rfl (Nat.zero_le _) hz (by omega)⟩ g6
  · obtain rfl := z_inj (by omega) (by omega) ea
    obtain rfl := z_inj (by omega) (by omega) ev
    obtain ⟨i, hi9, e9⟩ := g4
    have hx1 := xb.2.1 i (by have := xb.1; omega)
    exact absurd (z_inj (by omega) (by omega) e9) (hn i hi9)
  · have h12 : X 13 0 < 12 := h12
    omega
  · obtain rfl := z_inj (by omega) (by omega) ea
    obtain rfl := z_inj (by omega) (by omega) ev
    exact ⟨okp (X, hl, len, Ch) (frX X y z), ⟨rfl, rfl⟩, fun H9 hP hD => HO_kp (Z := frX X y z) hq kp hP hD⟩

set_option maxHeartbeats 2000000 in
set_option maxRecDepth 100000 in
theorem U_level_i (l : Launch) (E : zE) (tm tl : Nat) (D : Nat → Prop) (fs : Nat) (o : oS) (xb : XB o.1) (a v : Int32) (hb : ¬ ((nI 1 ≤ a ∧ a ≤ nI (o.1 13 0)) ∧ (nI 0 ≤ v ∧ v ≤ nI 2000))) : oM l yX6_level wsX6_level ({ frames := 6, cells := 0, slots := 0, locals := 136 }) E tm tl D fs [.ref fs, .int a, .int v] o (fun r o9 => r = -1 ∧ o9 = o) := by
  obtain ⟨X, hl, len, Ch⟩ := o
  try dsimp only at *
  refine oM_of (fun H hO => ?_)
  obtain ⟨sc, hi, ch, rw, ad, adA, adB, adC, adD, old, pl, fp, YA, YB, YC, YD, st, fr, fo, ti, to, hq, hP, hD⟩ := hO
  refine ⟨_, oT E sc ch len pl fp st fr fo ti to Ch, _, _, List.Perm.refl _, hP, hD, c_X6_level l E fs sc hi rw hl.length old a v adA adB adC adD ad YA YB YC YD X hq.1 hq.2.1 xb.1 xb.2.1 xb.2.2.1 xb.2.2.2.2.2.1 xb.2.2.2.2.2.2.2.2.1, fun r w9 hp => ?_⟩
  rcases hp with ⟨rfl, g6, rfl⟩ | ⟨f9, z9, rfl, ⟨ea, ev, g1, g2, g3, g4⟩, rfl⟩ | ⟨f9, z9, A9, B9, C9, D9, rfl, ⟨ea, ev, g1, g2, g3, g4, kp⟩, rfl⟩
  · exact ⟨(X, hl, len, Ch), ⟨rfl, rfl⟩, fun H9 hP hD => ⟨sc, hi, ch, rw, ad, adA, adB, adC, adD, old, pl, fp, YA, YB, YC, YD, st, fr, fo, ti, to, hq, hP, hD⟩⟩
  · have hx0 : X 13 0 ≤ 12 := xb.1
    exact absurd ⟨nB ea (by omega) (by omega) (by omega), nB ev (by omega) (by omega) (by omega)⟩ hb
  · have hx0 : X 13 0 ≤ 12 := xb.1
    exact absurd ⟨nB ea (by omega) (by omega) (by omega), nB ev (by omega) (by omega) (by omega)⟩ hb

set_option maxHeartbeats 2000000 in
set_option maxRecDepth 100000 in
theorem U_level_p (l : Launch) (E : zE) (tm tl : Nat) (D : Nat → Prop) (fs : Nat) (o : oS) (xb : XB o.1) (f z : Nat) (hf1 : 1 ≤ f) (hf2 : f ≤ o.1 13 0) (hz : z ≤ 2000) (hh : atN (o.1 1) f < z) : oM l yX6_level wsX6_level ({ frames := 6, cells := 0, slots := 0, locals := 136 }) E tm tl D fs [.ref fs, .int (nI f), .int (nI z)] o (fun r o9 => r = -2 ∧ o9 = o) := by
  obtain ⟨X, hl, len, Ch⟩ := o
  try dsimp only at *
  refine oM_of (fun H hO => ?_)
  obtain ⟨sc, hi, ch, rw, ad, adA, adB, adC, adD, old, pl, fp, YA, YB, YC, YD, st, fr, fo, ti, to, hq, hP, hD⟩ := hO
  refine ⟨_, oT E sc ch len pl fp st fr fo ti to Ch, _, _, List.Perm.refl _, hP, hD, c_X6_level l E fs sc hi rw hl.length old (nI f) (nI z) adA adB adC adD ad YA YB YC YD X hq.1 hq.2.1 xb.1 xb.2.1 xb.2.2.1 xb.2.2.2.2.2.1 xb.2.2.2.2.2.2.2.2.1, fun r w9 hp => ?_⟩
  rcases hp with ⟨rfl, g6, rfl⟩ | ⟨f9, z9, rfl, ⟨ea, ev, g1, g2, g3, g4⟩, rfl⟩ | ⟨f9, z9, A9, B9, C9, D9, rfl, ⟨ea, ev, g1, g2, g3, g4, kp⟩, rfl⟩
  · have hx0 : X 13 0 ≤ 12 := xb.1
    have hf2 : f ≤ X 13 0 := hf2
    exact absurd ⟨nB (k := f) rfl hf1 hf2 (by omega), nB (k := z) rfl (Nat.zero_le _) hz (by omega)⟩ g6
  · exact ⟨(X, hl, len, Ch), ⟨rfl, rfl⟩, fun H9 hP hD => ⟨sc, hi, ch, rw, ad, adA, adB, adC, adD, old, pl, fp, YA, YB, YC, YD, st, fr, fo, ti, to, hq, hP, hD⟩⟩
  · have hx0 : X 13 0 ≤ 12 := xb.1
    have hf2 : f ≤ X 13 0 := hf2
    obtain rfl := z_inj (by omega) (by omega) ea
    obtain rfl := z_inj (by omega) (by omega) ev
    exact absurd hh (Nat.not_lt.mpr g4)

set_option maxHeartbeats 2000000 in
set_option maxRecDepth 100000 in
theorem U_level_y (l : Launch) (E : zE) (tm tl : Nat) (D : Nat → Prop) (fs : Nat) (o : oS) (xb : XB o.1) (f z : Nat) (hf1 : 1 ≤ f) (hf2 : f ≤ o.1 13 0) (hz : z ≤ 2000) (hh : z ≤ atN (o.1 1) f) : oM l yX6_level wsX6_level ({ frames := 6, cells := 0, slots := 0, locals := 136 }) E tm tl D fs [.ref fs, .int (nI f), .int (nI z)] o (fun r o9 => r = nI (atN (o.1 1) f - z) ∧ o9 = okp o (lvX o.1 f z)) := by
  obtain ⟨X, hl, len, Ch⟩ := o
  try dsimp only at *
  refine oM_of (fun H hO => ?_)
  obtain ⟨sc, hi, ch, rw, ad, adA, adB, adC, adD, old, pl, fp, YA, YB, YC, YD, st, fr, fo, ti, to, hq, hP, hD⟩ := hO
  refine ⟨_, oT E sc ch len pl fp st fr fo ti to Ch, _, _, List.Perm.refl _, hP, hD, c_X6_level l E fs sc hi rw hl.length old (nI f) (nI z) adA adB adC adD ad YA YB YC YD X hq.1 hq.2.1 xb.1 xb.2.1 xb.2.2.1 xb.2.2.2.2.2.1 xb.2.2.2.2.2.2.2.2.1, fun r w9 hp => ?_⟩
  rcases hp with ⟨rfl, g6, rfl⟩ | ⟨f9, z9, rfl, ⟨ea, ev, g1, g2, g3, g4⟩, rfl⟩ | ⟨f9, z9, A9, B9, C9, D9, rfl, ⟨ea, ev, g1, g2, g3, g4, kp⟩, rfl⟩
  · have hx0 : X 13 0 ≤ 12 := xb.1
    have hf2 : f ≤ X 13 0 := hf2
    exact absurd ⟨nB (k := f) rfl hf1 hf2 (by omega), nB (k := z) rfl (Nat.zero_le _) hz (by omega)⟩ g6
  · have hx0 : X 13 0 ≤ 12 := xb.1
    have hf2 : f ≤ X 13 0 := hf2
    obtain rfl := z_inj (by omega) (by omega) ea
    obtain rfl := z_inj (by omega) (by omega) ev
    exact absurd g4 (Nat.not_lt.mpr hh)
  · have hx0 : X 13 0 ≤ 12 := xb.1
    have hf2 : f ≤ X 13 0 := hf2
    obtain rfl := z_inj (by omega) (by omega) ea
    obtain rfl := z_inj (by omega) (by omega) ev
    exact ⟨okp (X, hl, len, Ch) (lvX X f z), ⟨rfl, rfl⟩, fun H9 hP hD => HO_kp (Z := lvX X f z) hq kp hP hD⟩

set_option maxHeartbeats 2000000 in
set_option maxRecDepth 100000 in
theorem U_tune_i (l : Launch) (E : zE) (tm tl : Nat) (D : Nat → Prop) (fs : Nat) (o : oS) (a v : Int32) (hb : ¬ ((nI 0 ≤ a ∧ a ≤ nI 3) ∧ (nI 1000 ≤ v ∧ v ≤ nI 100000000))) : oM l yX6_tune wsX6_tune ({ frames := 4, cells := 0, slots := 0, locals := 104 }) E tm tl D fs [.ref fs, .int a, .int v] o (fun r o9 => r = -1 ∧ o9 = o) := by
  obtain ⟨X, hl, len, Ch⟩ := o
  try dsimp only at *
  refine oM_of (fun H hO => ?_)
  obtain ⟨sc, hi, ch, rw, ad, adA, adB, adC, adD, old, pl, fp, YA, YB, YC, YD, st, fr, fo, ti, to, hq, hP, hD⟩ := hO
  refine ⟨_, oT E sc ch len pl fp st fr fo ti to Ch, _, _, List.Perm.refl _, hP, hD, c_X6_tune l E fs sc hi rw hl.length old a v adA adB adC adD ad YA YB YC YD X hq.1 hq.2.1, fun r w9 hp => ?_⟩
  rcases hp with ⟨rfl, g6, rfl⟩ | ⟨s9, w8, A9, B9, C9, D9, rfl, ⟨ea, ev, hs9, g1, g2, kp⟩, rfl⟩
  · exact ⟨(X, hl, len, Ch), ⟨rfl, rfl⟩, fun H9 hP hD => ⟨sc, hi, ch, rw, ad, adA, adB, adC, adD, old, pl, fp, YA, YB, YC, YD, st, fr, fo, ti, to, hq, hP, hD⟩⟩
  · exact absurd ⟨nB ea (by omega) (by omega) (by omega), nB ev (by omega) (by omega) (by omega)⟩ hb

set_option maxHeartbeats 2000000 in
set_option maxRecDepth 100000 in
theorem U_tune_y (l : Launch) (E : zE) (tm tl : Nat) (D : Nat → Prop) (fs : Nat) (o : oS) (s w : Nat) (hs : s < 4) (hw1 : 1000 ≤ w) (hw2 : w ≤ 100000000) : oM l yX6_tune wsX6_tune ({ frames := 4, cells := 0, slots := 0, locals := 104 }) E tm tl D fs [.ref fs, .int (nI s), .int (nI w)] o (fun r o9 => r = nI (o.1 3 s) ∧ o9 = okp o (tuX o.1 s w)) := by
  obtain ⟨X, hl, len, Ch⟩ := o
  try dsimp only at *
  refine oM_of (fun H hO => ?_)
  obtain ⟨sc, hi, ch, rw, ad, adA, adB, adC, adD, old, pl, fp, YA, YB, YC, YD, st, fr, fo, ti, to, hq, hP, hD⟩ := hO
  refine ⟨_, oT E sc ch len pl fp st fr fo ti to Ch, _, _, List.Perm.refl _, hP, hD, c_X6_tune l E fs sc hi rw hl.length old (nI s) (nI w) adA adB adC adD ad YA YB YC YD X hq.1 hq.2.1, fun r w9 hp => ?_⟩
  rcases hp with ⟨rfl, g6, rfl⟩ | ⟨s9, w8, A9, B9, C9, D9, rfl, ⟨ea, ev, hs9, g1, g2, kp⟩, rfl⟩
  · exact absurd ⟨nB (k := s) rfl (Nat.zero_le _) (by omega) (by omega), nB (k := w) rfl hw1 hw2 (by omega)⟩ g6
  · obtain rfl := z_inj (by omega) (by omega) ea
    obtain rfl := z_inj (by omega) (by omega) ev
    exact ⟨okp (X, hl, len, Ch) (tuX X s w), ⟨rfl, rfl⟩, fun H9 hP hD => HO_kp (Z := tuX X s w) hq kp hP hD⟩

set_option maxHeartbeats 2000000 in
set_option maxRecDepth 100000 in
theorem U_touch_i (l : Launch) (E : zE) (tm tl : Nat) (D : Nat → Prop) (fs : Nat) (o : oS) (a v : Int32) (hb : ¬ ((nI 0 ≤ a ∧ a ≤ nI 3) ∧ (nI 0 ≤ v ∧ v ≤ nI 2519))) : oM l yX6_touch wsX6_touch ({ frames := 4, cells := 0, slots := 0, locals := 104 }) E tm tl D fs [.ref fs, .int a, .int v] o (fun r o9 => r = -1 ∧ o9 = o) := by
  obtain ⟨X, hl, len, Ch⟩ := o
  try dsimp only at *
  refine oM_of (fun H hO => ?_)
  obtain ⟨sc, hi, ch, rw, ad, adA, adB, adC, adD, old, pl, fp, YA, YB, YC, YD, st, fr, fo, ti, to, hq, hP, hD⟩ := hO
  refine ⟨_, oT E sc ch len pl fp st fr fo ti to Ch, _, _, List.Perm.refl _, hP, hD, c_X6_touch l E fs sc hi rw hl.length old a v adA adB adC adD ad YA YB YC YD X hq.1 hq.2.1, fun r w9 hp => ?_⟩
  rcases hp with ⟨rfl, g6, rfl⟩ | ⟨s9, w8, A9, B9, C9, D9, rfl, ⟨ea, ev, hs9, g2, kp⟩, rfl⟩
  · exact ⟨(X, hl, len, Ch), ⟨rfl, rfl⟩, fun H9 hP hD => ⟨sc, hi, ch, rw, ad, adA, adB, adC, adD, old, pl, fp, YA, YB, YC, YD, st, fr, fo, ti, to, hq, hP, hD⟩⟩
  · exact absurd ⟨nB ea (by omega) (by omega) (by omega), nB ev (by omega) (by omega) (by omega)⟩ hb

set_option maxHeartbeats 2000000 in
set_option maxRecDepth 100000 in
theorem U_touch_y (l : Launch) (E : zE) (tm tl : Nat) (D : Nat → Prop) (fs : Nat) (o : oS) (s w : Nat) (hs : s < 4) (hw2 : w ≤ 2519) : oM l yX6_touch wsX6_touch ({ frames := 4, cells := 0, slots := 0, locals := 104 }) E tm tl D fs [.ref fs, .int (nI s), .int (nI w)] o (fun r o9 => r = nI (o.1 5 s) ∧ o9 = okp o (toX o.1 s w)) := by
  obtain ⟨X, hl, len, Ch⟩ := o
  try dsimp only at *
  refine oM_of (fun H hO => ?_)
  obtain ⟨sc, hi, ch, rw, ad, adA, adB, adC, adD, old, pl, fp, YA, YB, YC, YD, st, fr, fo, ti, to, hq, hP, hD⟩ := hO
  refine ⟨_, oT E sc ch len pl fp st fr fo ti to Ch, _, _, List.Perm.refl _, hP, hD, c_X6_touch l E fs sc hi rw hl.length old (nI s) (nI w) adA adB adC adD ad YA YB YC YD X hq.1 hq.2.1, fun r w9 hp => ?_⟩
  rcases hp with ⟨rfl, g6, rfl⟩ | ⟨s9, w8, A9, B9, C9, D9, rfl, ⟨ea, ev, hs9, g2, kp⟩, rfl⟩
  · exact absurd ⟨nB (k := s) rfl (Nat.zero_le _) (by omega) (by omega), nB (k := w) rfl (Nat.zero_le _) hw2 (by omega)⟩ g6
  · obtain rfl := z_inj (by omega) (by omega) ea
    obtain rfl := z_inj (by omega) (by omega) ev
    exact ⟨okp (X, hl, len, Ch) (toX X s w), ⟨rfl, rfl⟩, fun H9 hP hD => HO_kp (Z := toX X s w) hq kp hP hD⟩

set_option maxHeartbeats 2000000 in
set_option maxRecDepth 100000 in
theorem U_press_i (l : Launch) (E : zE) (tm tl : Nat) (D : Nat → Prop) (fs : Nat) (o : oS) (xb : XB o.1) (a v : Int32) (hb : ¬ ((nI 0 ≤ a ∧ a ≤ nI 3) ∧ (nI 0 ≤ v ∧ v ≤ nI (o.1 13 0)))) : oM l yX6_press wsX6_press ({ frames := 7, cells := 0, slots := 0, locals := 158 }) E tm tl D fs [.ref fs, .int a, .int v] o (fun r o9 => r = -1 ∧ o9 = o) := by
  obtain ⟨X, hl, len, Ch⟩ := o
  try dsimp only at *
  refine oM_of (fun H hO => ?_)
  obtain ⟨sc, hi, ch, rw, ad, adA, adB, adC, adD, old, pl, fp, YA, YB, YC, YD, st, fr, fo, ti, to, hq, hP, hD⟩ := hO
  refine ⟨_, oT E sc ch len pl fp st fr fo ti to Ch, _, _, List.Perm.refl _, hP, hD, c_X6_press l E fs sc hi rw hl.length old a v adA adB adC adD ad YA YB YC YD X hq.1 hq.2.1 xb.1 xb.2.1 xb.2.2.1 xb.2.2.2.2.2.1 xb.2.2.2.2.2.2.2.2.1, fun r w9 hp => ?_⟩
  rcases hp with ⟨rfl, g6, rfl⟩ | ⟨s9, f9, A9, B9, C9, D9, rfl, ⟨ea, ev, hs9, g2, kp⟩, rfl⟩
  · exact ⟨(X, hl, len, Ch), ⟨rfl, rfl⟩, fun H9 hP hD => ⟨sc, hi, ch, rw, ad, adA, adB, adC, adD, old, pl, fp, YA, YB, YC, YD, st, fr, fo, ti, to, hq, hP, hD⟩⟩
  · have hx0 : X 13 0 ≤ 12 := xb.1
    exact absurd ⟨nB ea (by omega) (by omega) (by omega), nB ev (by omega) (by omega) (by omega)⟩ hb

set_option maxHeartbeats 2000000 in
set_option maxRecDepth 100000 in
theorem U_press_y (l : Launch) (E : zE) (tm tl : Nat) (D : Nat → Prop) (fs : Nat) (o : oS) (xb : XB o.1) (s f : Nat) (hs : s < 4) (hf : f ≤ o.1 13 0) : oM l yX6_press wsX6_press ({ frames := 7, cells := 0, slots := 0, locals := 158 }) E tm tl D fs [.ref fs, .int (nI s), .int (nI f)] o (fun r o9 => r = nI (2520 - prX o.1 s f 8 s) ∧ o9 = okp o (prX o.1 s f)) := by
  obtain ⟨X, hl, len, Ch⟩ := o
  try dsimp only at *
  refine oM_of (fun H hO => ?_)
  obtain ⟨sc, hi, ch, rw, ad, adA, adB, adC, adD, old, pl, fp, YA, YB, YC, YD, st, fr, fo, ti, to, hq, hP, hD⟩ := hO
  refine ⟨_, oT E sc ch len pl fp st fr fo ti to Ch, _, _, List.Perm.refl _, hP, hD, c_X6_press l E fs sc hi rw hl.length old (nI s) (nI f) adA adB adC adD ad YA YB YC YD X hq.1 hq.2.1 xb.1 xb.2.1 xb.2.2.1 xb.2.2.2.2.2.1 xb.2.2.2.2.2.2.2.2.1, fun r w9 hp => ?_⟩
  rcases hp with ⟨rfl, g6, rfl⟩ | ⟨s9, f9, A9, B9, C9, D9, rfl, ⟨ea, ev, hs9, g2, kp⟩, rfl⟩
  · have hx0 : X 13 0 ≤ 12 := xb.1
    have hf : f ≤ X 13 0 := hf
    exact absurd ⟨nB (k := s) rfl (Nat.zero_le _) (by omega) (by omega), nB (k := f) rfl (Nat.zero_le _) hf (by omega)⟩ g6
  · have hx0 : X 13 0 ≤ 12 := xb.1
    have hf : f ≤ X 13 0 := hf
    obtain rfl := z_inj (by omega) (by omega) ea
    obtain rfl := z_inj (by omega) (by omega) ev
    exact ⟨okp (X, hl, len, Ch) (prX X s f), ⟨rfl, rfl⟩, fun H9 hP hD => HO_kp (Z := prX X s f) hq kp hP hD⟩

set_option maxHeartbeats 2000000 in
set_option maxRecDepth 100000 in
theorem U_pluck_i (l : Launch) (E : zE) (tm tl : Nat) (D : Nat → Prop) (fs : Nat) (o : oS) (xb : XB o.1) (a v u : Int32) (hb : ¬ ((nI 0 ≤ a ∧ a ≤ nI 3) ∧ (nI 1 ≤ v ∧ v ≤ nI 2519) ∧ (nI 1 ≤ u ∧ u ≤ nI 1000))) : oM l yX6_pluck wsX6_pluck ({ frames := 7, cells := 0, slots := 0, locals := 161 }) E tm tl D fs [.ref fs, .int a, .int v, .int u] o (fun r o9 => r = -1 ∧ o9 = o) := by
  obtain ⟨X, hl, len, Ch⟩ := o
  try dsimp only at *
  refine oM_of (fun H hO => ?_)
  obtain ⟨sc, hi, ch, rw, ad, adA, adB, adC, adD, old, pl, fp, YA, YB, YC, YD, st, fr, fo, ti, to, hq, hP, hD⟩ := hO
  refine ⟨_, oT E sc ch len pl fp st fr fo ti to Ch, _, _, List.Perm.refl _, hP, hD, c_X6_pluck l E fs sc hi rw hl.length old a v u adA adB adC adD ad YA YB YC YD X hq.1 hq.2.1 xb.1 xb.2.1 xb.2.2.1 xb.2.2.2.2.2.1 xb.2.2.2.2.2.2.2.2.1 xb.2.2.2.1 xb.2.2.2.2.2.2.2.1 xb.2.2.2.2.2.2.2.2.2.1 xb.2.2.2.2.2.2.2.2.2.2.2.2.2.2.2.2.2.1 xb.2.2.2.2.2.2.2.2.2.2.2.1 xb.2.2.2.2.2.2.2.2.2.2.2.2.2.2.2.1 xb.2.2.2.2.2.2.2.2.2.2.2.2.2.2.2.2.1, fun r w9 hp => ?_⟩
  rcases hp with ⟨rfl, g6, rfl⟩ | ⟨s9, y9, q9, rfl, ⟨ea, ev, eu, hs9, g1, g2, g3, g4, g5⟩, rfl⟩ | ⟨s9, y9, q9, A9, B9, C9, D9, rfl, ⟨ea, ev, eu, hs9, g1, g2, g3, g4, g5, kp⟩, rfl⟩
  · exact ⟨(X, hl, len, Ch), ⟨rfl, rfl⟩, fun H9 hP hD => ⟨sc, hi, ch, rw, ad, adA, adB, adC, adD, old, pl, fp, YA, YB, YC, YD, st, fr, fo, ti, to, hq, hP, hD⟩⟩
  · exact absurd ⟨nB ea (by omega) (by omega) (by omega), nB ev (by omega) (by omega) (by omega), nB eu (by omega) (by omega) (by omega)⟩ hb
  · exact absurd ⟨nB ea (by omega) (by omega) (by omega), nB ev (by omega) (by omega) (by omega), nB eu (by omega) (by omega) (by omega)⟩ hb

set_option maxHeartbeats 2000000 in
set_option maxRecDepth 100000 in
theorem U_pluck_p (l : Launch) (E : zE) (tm tl : Nat) (D : Nat → Prop) (fs : Nat) (o : oS) (xb : XB o.1) (s y q : Nat) (hs : s < 4) (hy1 : 1 ≤ y) (hy2 : y ≤ 2519) (hq1 : 1 ≤ q) (hq2 : q ≤ 1000) (hx : y ≤ o.1 8 s) : oM l yX6_pluck wsX6_pluck ({ frames := 7, cells := 0, slots := 0, locals := 161 }) E tm tl D fs [.ref fs, .int (nI s), .int (nI y), .int (nI q)] o (fun r o9 => r = -2 ∧ o9 = o) := by
  obtain ⟨X, hl, len, Ch⟩ := o
  try dsimp only at *
  refine oM_of (fun H hO => ?_)
  obtain ⟨sc, hi, ch, rw, ad, adA, adB, adC, adD, old, pl, fp, YA, YB, YC, YD, st, fr, fo, ti, to, hq, hP, hD⟩ := hO
  refine ⟨_, oT E sc ch len pl fp st fr fo ti to Ch, _, _, List.Perm.refl _, hP, hD, c_X6_pluck l E fs sc hi rw hl.length old (nI s) (nI y) (nI q) adA adB adC adD ad YA YB YC YD X hq.1 hq.2.1 xb.1 xb.2.1 xb.2.2.1 xb.2.2.2.2.2.1 xb.2.2.2.2.2.2.2.2.1 xb.2.2.2.1 xb.2.2.2.2.2.2.2.1 xb.2.2.2.2.2.2.2.2.2.1 xb.2.2.2.2.2.2.2.2.2.2.2.2.2.2.2.2.2.1 xb.2.2.2.2.2.2.2.2.2.2.2.1 xb.2.2.2.2.2.2.2.2.2.2.2.2.2.2.2.1 xb.2.2.2.2.2.2.2.2.2.2.2.2.2.2.2.2.1, fun r w9 hp => ?_⟩
  rcases hp with ⟨rfl, g6, rfl⟩ | ⟨s9, y9, q9, rfl, ⟨ea, ev, eu, hs9, g1, g2, g3, g4, g5⟩, rfl⟩ | ⟨s9, y9, q9, A9, B9, C9, D9, rfl, ⟨ea, ev, eu, hs9, g1, g2, g3, g4, g5, kp⟩, rfl⟩
  · exact absurd ⟨nB (k := s) rfl (Nat.zero_le _) (by omega) (by omega), nB (k := y) rfl hy1 hy2 (by omega), nB (k := q) rfl hq1 hq2 (by omega)⟩ g6
  · exact ⟨(X, hl, len, Ch), ⟨rfl, rfl⟩, fun H9 hP hD => ⟨sc, hi, ch, rw, ad, adA, adB, adC, adD, old, pl, fp, YA, YB, YC, YD, st, fr, fo, ti, to, hq, hP, hD⟩⟩
  · obtain rfl := z_inj (by omega) (by omega) ea
    obtain rfl := z_inj (by omega) (by omega) ev
    obtain rfl := z_inj (by omega) (by omega) eu
    exact absurd g5 (Nat.not_lt.mpr hx)

set_option maxHeartbeats 2000000 in
set_option maxRecDepth 100000 in
theorem U_pluck_y (l : Launch) (E : zE) (tm tl : Nat) (D : Nat → Prop) (fs : Nat) (o : oS) (xb : XB o.1) (s y q : Nat) (hs : s < 4) (hy1 : 1 ≤ y) (hy2 : y ≤ 2519) (hq1 : 1 ≤ q) (hq2 : q ≤ 1000) (hx : o.1 8 s < y) : oM l yX6_pluck wsX6_pluck ({ frames := 7, cells := 0, slots := 0, locals := 161 }) E tm tl D fs [.ref fs, .int (nI s), .int (nI y), .int (nI q)] o (fun r o9 => r = nI (popc (mhL (pkX o.1 s y q 9) (o.1 12 4) s 12)) ∧ o9 = okp o (pkX o.1 s y q)) := by
  obtain ⟨X, hl, len, Ch⟩ := o
  try dsimp only at *
  refine oM_of (fun H hO => ?_)
  obtain ⟨sc, hi, ch, rw, ad, adA, adB, adC, adD, old, pl, fp, YA, YB, YC, YD, st, fr, fo, ti, to, hq, hP, hD⟩ := hO
  refine ⟨_, oT E sc ch len pl fp st fr fo ti to Ch, _, _, List.Perm.refl _, hP, hD, c_X6_pluck l E fs sc hi rw hl.length old (nI s) (nI y) (nI q) adA adB adC adD ad YA YB YC YD X hq.1 hq.2.1 xb.1 xb.2.1 xb.2.2.1 xb.2.2.2.2.2.1 xb.2.2.2.2.2.2.2.2.1 xb.2.2.2.1 xb.2.2.2.2.2.2.2.1 xb.2.2.2.2.2.2.2.2.2.1 xb.2.2.2.2.2.2.2.2.2.2.2.2.2.2.2.2.2.1 xb.2.2.2.2.2.2.2.2.2.2.2.1 xb.2.2.2.2.2.2.2.2.2.2.2.2.2.2.2.1 xb.2.2.2.2.2.2.2.2.2.2.2.2.2.2.2.2.1, fun r w9 hp => ?_⟩
  rcases hp with ⟨rfl, g6, rfl⟩ | ⟨s9, y9, q9, rfl, ⟨ea, ev, eu, hs9, g1, g2, g3, g4, g5⟩, rfl⟩ | ⟨s9, y9, q9, A9, B9, C9, D9, rfl, ⟨ea, ev, eu, hs9, g1, g2, g3, g4, g5, kp⟩, rfl⟩
  · exact absurd ⟨nB (k := s) rfl (Nat.zero_le _) (by omega) (by omega), nB (k := y) rfl hy1 hy2 (by omega), nB (k := q) rfl hq1 hq2 (by omega)⟩ g6
  · obtain rfl := z_inj (by omega) (by omega) ea
    obtain rfl := z_inj (by omega) (by omega) ev
    obtain rfl := z_inj (by omega) (by omega) eu
    exact absurd hx (Nat.not_lt.mpr g5)
  · obtain rfl := z_inj (by omega) (by omega) ea
    obtain rfl := z_inj (by omega) (by omega) ev
    obtain rfl := z_inj (by omega) (by omega) eu
    exact ⟨okp (X, hl, len, Ch) (pkX X s y q), ⟨rfl, rfl⟩, fun H9 hP hD => HO_kp (Z := pkX X s y q) hq kp hP hD⟩

set_option maxHeartbeats 2000000 in
set_option maxRecDepth 100000 in
theorem U_damp_i (l : Launch) (E : zE) (tm tl : Nat) (D : Nat → Prop) (fs : Nat) (o : oS) (xb : XB o.1) (a : Int32) (hb : ¬ (nI 0 ≤ a ∧ a ≤ nI 3)) : oM l yX6_damp wsX6_damp ({ frames := 4, cells := 0, slots := 0, locals := 104 }) E tm tl D fs [.ref fs, .int a] o (fun r o9 => r = -1 ∧ o9 = o) := by
  obtain ⟨X, hl, len, Ch⟩ := o
  try dsimp only at *
  refine oM_of (fun H hO => ?_)
  obtain ⟨sc, hi, ch, rw, ad, adA, adB, adC, adD, old, pl, fp, YA, YB, YC, YD, st, fr, fo, ti, to, hq, hP, hD⟩ := hO
  refine ⟨_, oT E sc ch len pl fp st fr fo ti to Ch, _, _, List.Perm.refl _, hP, hD, c_X6_damp l E fs sc hi rw hl.length old a adA adB adC adD ad YA YB YC YD X hq.1 hq.2.1 xb.2.2.2.2.2.2.2.2.2.1 xb.2.2.2.2.2.2.2.2.2.2.2.2.2.2.2.2.1, fun r w9 hp => ?_⟩
  rcases hp with ⟨rfl, g6, rfl⟩ | ⟨s9, A9, B9, C9, D9, rfl, ⟨ea, hs9, kp⟩, rfl⟩
  · exact ⟨(X, hl, len, Ch), ⟨rfl, rfl⟩, fun H9 hP hD => ⟨sc, hi, ch, rw, ad, adA, adB, adC, adD, old, pl, fp, YA, YB, YC, YD, st, fr, fo, ti, to, hq, hP, hD⟩⟩
  · exact absurd (nB ea (by omega) (by omega) (by omega)) hb

set_option maxHeartbeats 2000000 in
set_option maxRecDepth 100000 in
theorem U_damp_y (l : Launch) (E : zE) (tm tl : Nat) (D : Nat → Prop) (fs : Nat) (o : oS) (xb : XB o.1) (s : Nat) (hs : s < 4) : oM l yX6_damp wsX6_damp ({ frames := 4, cells := 0, slots := 0, locals := 104 }) E tm tl D fs [.ref fs, .int (nI s)] o (fun r o9 => r = nI (popc (mhL (o.1 9) (o.1 12 4) s 12)) ∧ o9 = okp o (daX o.1 s)) := by
  obtain ⟨X, hl, len, Ch⟩ := o
  try dsimp only at *
  refine oM_of (fun H hO => ?_)
  obtain ⟨sc, hi, ch, rw, ad, adA, adB, adC, adD, old, pl, fp, YA, YB, YC, YD, st, fr, fo, ti, to, hq, hP, hD⟩ := hO
  refine ⟨_, oT E sc ch len pl fp st fr fo ti to Ch, _, _, List.Perm.refl _, hP, hD, c_X6_damp l E fs sc hi rw hl.length old (nI s) adA adB adC adD ad YA YB YC YD X hq.1 hq.2.1 xb.2.2.2.2.2.2.2.2.2.1 xb.2.2.2.2.2.2.2.2.2.2.2.2.2.2.2.2.1, fun r w9 hp => ?_⟩
  rcases hp with ⟨rfl, g6, rfl⟩ | ⟨s9, A9, B9, C9, D9, rfl, ⟨ea, hs9, kp⟩, rfl⟩
  · exact absurd (nB (k := s) rfl (Nat.zero_le _) (by omega) (by omega)) g6
  · obtain rfl := z_inj (by omega) (by omega) ea
    exact ⟨okp (X, hl, len, Ch) (daX X s), ⟨rfl, rfl⟩, fun H9 hP hD => HO_kp (Z := daX X s) hq kp hP hD⟩

set_option maxHeartbeats 2000000 in
set_option maxRecDepth 100000 in
theorem U_set_i (l : Launch) (E : zE) (tm tl : Nat) (D : Nat → Prop) (fs : Nat) (o : oS) (a v : Int32) (hb : ¬ canP a v) : oM l yX6_set wsX6_set ({ frames := 4, cells := 0, slots := 0, locals := 104 }) E tm tl D fs [.ref fs, .int a, .int v] o (fun r o9 => r = -1 ∧ o9 = o) := by
  obtain ⟨X, hl, len, Ch⟩ := o
  try dsimp only at *
  refine oM_ofS (fun H hO => ?_)
  obtain ⟨sc, hi, ch, rw, ad, adA, adB, adC, adD, old, pl, fp, YA, YB, YC, YD, st, fr, fo, ti, to, hq, hP, hD⟩ := hO
  refine ⟨_, oT E sc ch len pl fp st fr fo ti to Ch, _, _, List.Perm.refl _, hP, hD, c_X6_set l E tm tl fs sc hi rw hl.length old a v adA adB adC adD ad YA YB YC YD X hq.1 hq.2.1, fun r w9 hp => ?_⟩
  rcases hp with ⟨rfl, g6, rfl⟩ | ⟨k9, w8, A9, B9, C9, D9, rfl, ⟨ea, ev, hk9, hs9, kp⟩, rfl⟩
  · exact ⟨(X, hl, len, Ch), ⟨rfl, rfl⟩, fun H9 hP hD => ⟨sc, hi, ch, rw, ad, adA, adB, adC, adD, old, pl, fp, YA, YB, YC, YD, st, fr, fo, ti, to, hq, hP, hD⟩⟩
  · subst ea ev
    exact absurd (can_p hs9) hb

set_option maxHeartbeats 2000000 in
set_option maxRecDepth 100000 in
theorem U_set_y (l : Launch) (E : zE) (tm tl : Nat) (D : Nat → Prop) (fs : Nat) (o : oS) (k w : Nat) (hk : stO k w) : oM l yX6_set wsX6_set ({ frames := 4, cells := 0, slots := 0, locals := 104 }) E tm tl D fs [.ref fs, .int (nI k), .int (nI w)] o (fun r o9 => r = nI (o.1 12 k) ∧ o9 = okp o (seK o.1 k w)) := by
  obtain ⟨X, hl, len, Ch⟩ := o
  try dsimp only at *
  refine oM_ofS (fun H hO => ?_)
  obtain ⟨sc, hi, ch, rw, ad, adA, adB, adC, adD, old, pl, fp, YA, YB, YC, YD, st, fr, fo, ti, to, hq, hP, hD⟩ := hO
  refine ⟨_, oT E sc ch len pl fp st fr fo ti to Ch, _, _, List.Perm.refl _, hP, hD, c_X6_set l E tm tl fs sc hi rw hl.length old (nI k) (nI w) adA adB adC adD ad YA YB YC YD X hq.1 hq.2.1, fun r w9 hp => ?_⟩
  rcases hp with ⟨rfl, g6, rfl⟩ | ⟨k9, w8, A9, B9, C9, D9, rfl, ⟨ea, ev, hk9, hs9, kp⟩, rfl⟩
  · exact absurd (can_p hk) g6
  · have hb1 := can_b hk
    have hb2 := can_b hs9
    have hb3 := mstF_b k
    have hb4 := mstF_b k9
    obtain rfl := z_inj (by omega) (by omega) ea
    obtain rfl := z_inj (by omega) (by omega) ev
    exact ⟨okp (X, hl, len, Ch) (seK X k w), ⟨rfl, rfl⟩, fun H9 hP hD => HO_kp (Z := seK X k w) hq kp hP hD⟩

set_option maxHeartbeats 2000000 in
set_option maxRecDepth 100000 in
theorem U_run_i (l : Launch) (E : zE) (tm tl : Nat) (D : Nat → Prop) (fs : Nat) (o : oS) (xb : XB o.1) (a : Int32) (hb : ¬ (nI 1 ≤ a ∧ a ≤ nI 500)) : oM l yX6_run wsX6_run ({ frames := 4, cells := 0, slots := 0, locals := 104 }) E tm tl D fs [.ref fs, .int a] o (fun r o9 => r = -1 ∧ o9 = o) := by
  obtain ⟨X, hl, len, Ch⟩ := o
  try dsimp only at *
  refine oM_of (fun H hO => ?_)
  obtain ⟨sc, hi, ch, rw, ad, adA, adB, adC, adD, old, pl, fp, YA, YB, YC, YD, st, fr, fo, ti, to, hq, hP, hD⟩ := hO
  refine ⟨_, oT E sc ch len pl fp st fr fo ti to Ch, _, _, List.Perm.refl _, hP, hD, c_X6_run l E fs sc hi rw hl.length old a adA adB adC adD ad YA YB YC YD X hq.1 hq.2.1 xb.2.2.2.2.2.2.2.2.1 xb.2.2.2.2.2.2.1 xb.2.2.2.2.2.2.2.2.2.1 xb.2.2.2.2.2.2.2.2.2.2.2.2.1 xb.2.2.2.2.2.2.2.2.2.2.2.2.2.1 xb.2.2.2.2.2.2.2.2.2.2.2.2.2.2.1 xb.2.2.2.2.2.2.2.2.2.2.2.2.2.2.2.2.1 xb.2.2.2.2.2.2.2.2.2.2.2.2.2.2.2.2.2.2, fun r w9 hp => ?_⟩
  rcases hp with ⟨rfl, g6, rfl⟩ | ⟨k9, rfl, ⟨ea, g1, g2, g3⟩, rfl⟩ | ⟨k9, A9, B9, C9, D9, rfl, ⟨ea, g1, g2, g3, kp⟩, rfl⟩
  · exact ⟨(X, hl, len, Ch), ⟨rfl, rfl⟩, fun H9 hP hD => ⟨sc, hi, ch, rw, ad, adA, adB, adC, adD, old, pl, fp, YA, YB, YC, YD, st, fr, fo, ti, to, hq, hP, hD⟩⟩
  · exact absurd (nB ea (by omega) (by omega) (by omega)) hb
  · exact absurd (nB ea (by omega) (by omega) (by omega)) hb

set_option maxHeartbeats 2000000 in
set_option maxRecDepth 100000 in
theorem U_run_l (l : Launch) (E : zE) (tm tl : Nat) (D : Nat → Prop) (fs : Nat) (o : oS) (xb : XB o.1) (k : Nat) (hk1 : 1 ≤ k) (hk2 : k ≤ 500) (ht : 100000 < o.1 13 2 + k) : oM l yX6_run wsX6_run ({ frames := 4, cells := 0, slots := 0, locals := 104 }) E tm tl D fs [.ref fs, .int (nI k)] o (fun r o9 => r = -3 ∧ o9 = o) := by
  obtain ⟨X, hl, len, Ch⟩ := o
  try dsimp only at *
  refine oM_of (fun H hO => ?_)
  obtain ⟨sc, hi, ch, rw, ad, adA, adB, adC, adD, old, pl, fp, YA, YB, YC, YD, st, fr, fo, ti, to, hq, hP, hD⟩ := hO
  refine ⟨_, oT E sc ch len pl fp st fr fo ti to Ch, _, _, List.Perm.refl _, hP, hD, c_X6_run l E fs sc hi rw hl.length old (nI k) adA adB adC adD ad YA YB YC YD X hq.1 hq.2.1 xb.2.2.2.2.2.2.2.2.1 xb.2.2.2.2.2.2.1 xb.2.2.2.2.2.2.2.2.2.1 xb.2.2.2.2.2.2.2.2.2.2.2.2.1 xb.2.2.2.2.2.2.2.2.2.2.2.2.2.1 xb.2.2.2.2.2.2.2.2.2.2.2.2.2.2.1 xb.2.2.2.2.2.2.2.2.2.2.2.2.2.2.2.2.1 xb.2.2.2.2.2.2.2.2.2.2.2.2.2.2.2.2.2.2, fun r w9 hp => ?_⟩
  rcases hp with ⟨rfl, g6, rfl⟩ | ⟨k9, rfl, ⟨ea, g1, g2, g3⟩, rfl⟩ | ⟨k9, A9, B9, C9, D9, rfl, ⟨ea, g1, g2, g3, kp⟩, rfl⟩
  · exact absurd (nB (k := k) rfl hk1 hk2 (by omega)) g6
  · exact ⟨(X, hl, len, Ch), ⟨rfl, rfl⟩, fun H9 hP hD => ⟨sc, hi, ch, rw, ad, adA, adB, adC, adD, old, pl, fp, YA, YB, YC, YD, st, fr, fo, ti, to, hq, hP, hD⟩⟩
  · obtain rfl := z_inj (by omega) (by omega) ea
    exact absurd ht (Nat.not_lt.mpr g3)

set_option maxHeartbeats 2000000 in
set_option maxRecDepth 100000 in
theorem U_run_y (l : Launch) (E : zE) (tm tl : Nat) (D : Nat → Prop) (fs : Nat) (o : oS) (xb : XB o.1) (k : Nat) (hk1 : 1 ≤ k) (hk2 : k ≤ 500) (ht : o.1 13 2 + k ≤ 100000) : oM l yX6_run wsX6_run ({ frames := 4, cells := 0, slots := 0, locals := 104 }) E tm tl D fs [.ref fs, .int (nI k)] o (fun r o9 => r = nI (hrL (lgX o.1 k 9) (o.1 12 4) 4) ∧ o9 = okp o (lgX o.1 k)) := by
  obtain ⟨X, hl, len, Ch⟩ := o
  try dsimp only at *
  refine oM_of (fun H hO => ?_)
  obtain ⟨sc, hi, ch, rw, ad, adA, adB, adC, adD, old, pl, fp, YA, YB, YC, YD, st, fr, fo, ti, to, hq, hP, hD⟩ := hO
  refine ⟨_, oT E sc ch len pl fp st fr fo ti to Ch, _, _, List.Perm.refl _, hP, hD, c_X6_run l E fs sc hi rw hl.length old (nI k) adA adB adC adD ad YA YB YC YD X hq.1 hq.2.1 xb.2.2.2.2.2.2.2.2.1 xb.2.2.2.2.2.2.1 xb.2.2.2.2.2.2.2.2.2.1 xb.2.2.2.2.2.2.2.2.2.2.2.2.1 xb.2.2.2.2.2.2.2.2.2.2.2.2.2.1 xb.2.2.2.2.2.2.2.2.2.2.2.2.2.2.1 xb.2.2.2.2.2.2.2.2.2.2.2.2.2.2.2.2.1 xb.2.2.2.2.2.2.2.2.2.2.2.2.2.2.2.2.2.2, fun r w9 hp => ?_⟩
  rcases hp with ⟨rfl, g6, rfl⟩ | ⟨k9, rfl, ⟨ea, g1, g2, g3⟩, rfl⟩ | ⟨k9, A9, B9, C9, D9, rfl, ⟨ea, g1, g2, g3, kp⟩, rfl⟩
  · exact absurd (nB (k := k) rfl hk1 hk2 (by omega)) g6
  · obtain rfl := z_inj (by omega) (by omega) ea
    exact absurd g3 (Nat.not_lt.mpr ht)
  · obtain rfl := z_inj (by omega) (by omega) ea
    exact ⟨okp (X, hl, len, Ch) (lgX X k), ⟨rfl, rfl⟩, fun H9 hP hD => HO_kp (Z := lgX X k) hq kp hP hD⟩

set_option maxHeartbeats 2000000 in
set_option maxRecDepth 100000 in
theorem U_undo_p (l : Launch) (E : zE) (tm tl : Nat) (D : Nat → Prop) (fs : Nat) (o : oS) (he : o.2.1 = []) : oM l yX6_undo wsX6_undo ({ frames := 4, cells := 0, slots := 0, locals := 104 }) E tm tl D fs [.ref fs] o (fun r o9 => r = -2 ∧ o9 = o) := by
  obtain ⟨X, hl, len, Ch⟩ := o
  try dsimp only at *
  refine oM_of (fun H hO => ?_)
  obtain ⟨sc, hi, ch, rw, ad, adA, adB, adC, adD, old, pl, fp, YA, YB, YC, YD, st, fr, fo, ti, to, hq, hP, hD⟩ := hO
  refine ⟨_, oT E sc ch len pl fp st fr fo ti to Ch, _, _, List.Perm.refl _, hP, hD, c_X6_undo l E fs sc hi rw hl.length old adA adB adC adD ad YA YB YC YD X hq.1 hq.2.1, fun r w9 hp => ?_⟩
  rcases hp with ⟨rfl, g6, rfl⟩ | ⟨rfl, g6, rfl⟩
  · exact ⟨(X, hl, len, Ch), ⟨rfl, rfl⟩, fun H9 hP hD => ⟨sc, hi, ch, rw, ad, adA, adB, adC, adD, old, pl, fp, YA, YB, YC, YD, st, fr, fo, ti, to, hq, hP, hD⟩⟩
  · have he : hl = [] := he
    subst he
    exact absurd g6 (Nat.lt_irrefl 0)

set_option maxHeartbeats 2000000 in
set_option maxRecDepth 100000 in
theorem U_undo_y (l : Launch) (E : zE) (tm tl : Nat) (D : Nat → Prop) (fs : Nat) (o : oS) (h9 : List (Nat → Nat → Nat)) (Y : Nat → Nat → Nat) (he : o.2.1 = h9 ++ [Y]) : oM l yX6_undo wsX6_undo ({ frames := 4, cells := 0, slots := 0, locals := 104 }) E tm tl D fs [.ref fs] o (fun r o9 => r = nI h9.length ∧ o9 = (Y, h9, o.2.2.1, o.2.2.2)) := by
  obtain ⟨X, hl, len, Ch⟩ := o
  try dsimp only at *
  refine oM_of (fun H hO => ?_)
  obtain ⟨sc, hi, ch, rw, ad, adA, adB, adC, adD, old, pl, fp, YA, YB, YC, YD, st, fr, fo, ti, to, hq, hP, hD⟩ := hO
  refine ⟨_, oT E sc ch len pl fp st fr fo ti to Ch, _, _, List.Perm.refl _, hP, hD, c_X6_undo l E fs sc hi rw hl.length old adA adB adC adD ad YA YB YC YD X hq.1 hq.2.1, fun r w9 hp => ?_⟩
  rcases hp with ⟨rfl, g6, rfl⟩ | ⟨rfl, g6, rfl⟩
  · have he : hl = h9 ++ [Y] := he
    subst he
    have hln : (h9 ++ [Y]).length = h9.length + 1 := by simp
    rw [hln] at g6
    omega
  · have he : hl = h9 ++ [Y] := he
    subst he
    have hln : (h9 ++ [Y]).length = h9.length + 1 := by simp
    obtain ⟨q1, q2, q3, q4, q5⟩ := hq
    have q1 : (h9 ++ [Y]).length ≤ 4 := q1
    have q3 : HS old YA YB YC YD (h9 ++ [Y]) := q3
    have ey : gbX ((old + ((h9 ++ [Y]).length - 1)) % 4) YA YB YC YD = Y := by
      have := q3 h9.length (by omega)
      rw [List.getElem?_append_right (Nat.le_refl _), Nat.sub_self] at this
      rw [hln, Nat.add_sub_cancel]
      exact (Option.some.inj this).symm
    refine ⟨(Y, h9, len, Ch), ⟨by rw [hln]; rfl, rfl⟩, fun H9 hP hD => ⟨sc, hi, ch, rw, ad, adA, adB, adC, adD, old, pl, fp, YA, YB, YC, YD, st, fr, fo, ti, to, ⟨by show h9.length ≤ 4; omega, q2, fun k hk => ?_, q4, q5⟩, ?_, ?_⟩⟩
    · have hk : k < h9.length := hk
      have := q3 k (by omega)
      rw [List.getElem?_append_left hk] at this
      exact this
    · rw [ey, hln] at hP; exact hP
    · rw [ey, hln] at hD; exact hD

set_option maxHeartbeats 2000000 in
set_option maxRecDepth 100000 in
theorem U_fretInfo_i (l : Launch) (E : zE) (tm tl : Nat) (D : Nat → Prop) (fs : Nat) (o : oS) (xb : XB o.1) (a v : Int32) (hb : ¬ ((nI 1 ≤ a ∧ a ≤ nI (o.1 13 0)) ∧ (nI 0 ≤ v ∧ v ≤ nI 5))) : oM l yX6_fretInfo wsX6_fretInfo ({ frames := 5, cells := 0, slots := 0, locals := 114 }) E tm tl D fs [.ref fs, .int a, .int v] o (fun r o9 => (r = -1) ∧ o9 = o) := by
  obtain ⟨X, hl, len, Ch⟩ := o
  try dsimp only at *
  refine oM_rd (post := fun r => r = -1) (fun H hO => ?_)
  obtain ⟨sc, hi, ch, rw, ad, adA, adB, adC, adD, old, pl, fp, YA, YB, YC, YD, st, fr, fo, ti, to, hq, hP, hD⟩ := hO
  refine ⟨_, _, zP_left hP, c_X6_fretInfo l E fs sc hi rw hl.length old a v adA adB adC adD ad YA YB YC YD X xb.1 xb.2.1 xb.2.2.1 xb.2.2.2.2.2.1 xb.2.2.2.2.2.2.2.2.1 xb.2.2.2.2.2.2.2.1, fun r hp => ?_⟩
  rcases hp with ⟨rfl, g6⟩ | ⟨f9, w8, r9, rfl, ea, ev, g1, g2, g3, rfl⟩
  · rfl
  · have hx0 : X 13 0 ≤ 12 := xb.1
    exact absurd ⟨nB ea (by omega) (by omega) (by omega), nB ev (by omega) (by omega) (by omega)⟩ hb

set_option maxHeartbeats 2000000 in
set_option maxRecDepth 100000 in
theorem U_fretInfo_y (l : Launch) (E : zE) (tm tl : Nat) (D : Nat → Prop) (fs : Nat) (o : oS) (xb : XB o.1) (f w : Nat) (hf1 : 1 ≤ f) (hf2 : f ≤ o.1 13 0) (hw : w ≤ 5) : oM l yX6_fretInfo wsX6_fretInfo ({ frames := 5, cells := 0, slots := 0, locals := 114 }) E tm tl D fs [.ref fs, .int (nI f), .int (nI w)] o (fun r o9 => (r = fiX o.1 f w) ∧ o9 = o) := by
  obtain ⟨X, hl, len, Ch⟩ := o
  try dsimp only at *
  refine oM_rd (post := fun r => r = fiX X f w) (fun H hO => ?_)
  obtain ⟨sc, hi, ch, rw, ad, adA, adB, adC, adD, old, pl, fp, YA, YB, YC, YD, st, fr, fo, ti, to, hq, hP, hD⟩ := hO
  refine ⟨_, _, zP_left hP, c_X6_fretInfo l E fs sc hi rw hl.length old (nI f) (nI w) adA adB adC adD ad YA YB YC YD X xb.1 xb.2.1 xb.2.2.1 xb.2.2.2.2.2.1 xb.2.2.2.2.2.2.2.2.1 xb.2.2.2.2.2.2.2.1, fun r hp => ?_⟩
  rcases hp with ⟨rfl, g6⟩ | ⟨f9, w8, r9, rfl, ea, ev, g1, g2, g3, rfl⟩
  · have hx0 : X 13 0 ≤ 12 := xb.1
    have hf2 : f ≤ X 13 0 := hf2
    exact absurd ⟨nB (k := f) rfl hf1 hf2 (by omega), nB (k := w) rfl (Nat.zero_le _) hw (by omega)⟩ g6
  · have hx0 : X 13 0 ≤ 12 := xb.1
    have hf2 : f ≤ X 13 0 := hf2
    obtain rfl := z_inj (by omega) (by omega) ea
    obtain rfl := z_inj (by omega) (by omega) ev
    rfl

set_option maxHeartbeats 2000000 in
set_option maxRecDepth 100000 in
theorem U_mostFor_i (l : Launch) (E : zE) (tm tl : Nat) (D : Nat → Prop) (fs : Nat) (o : oS) (xb : XB o.1) (a : Int32) (hb : ¬ (nI 1 ≤ a ∧ a ≤ nI (o.1 13 0))) : oM l yX6_mostFor wsX6_mostFor ({ frames := 5, cells := 0, slots := 0, locals := 112 }) E tm tl D fs [.ref fs, .int a] o (fun r o9 => (r = -1) ∧ o9 = o) := by
  obtain ⟨X, hl, len, Ch⟩ := o
  try dsimp only at *
  refine oM_rd (post := fun r => r = -1) (fun H hO => ?_)
  obtain ⟨sc, hi, ch, rw, ad, adA, adB, adC, adD, old, pl, fp, YA, YB, YC, YD, st, fr, fo, ti, to, hq, hP, hD⟩ := hO
  refine ⟨_, _, zP_left hP, c_X6_mostFor l E fs sc hi rw hl.length old a adA adB adC adD ad YA YB YC YD X xb.1 xb.2.1 xb.2.2.1 xb.2.2.2.2.2.1 xb.2.2.2.2.2.2.2.2.1, fun r hp => ?_⟩
  rcases hp with ⟨rfl, g6⟩ | ⟨f9, r9, rfl, ea, g1, g2, rfl⟩
  · rfl
  · have hx0 : X 13 0 ≤ 12 := xb.1
    exact absurd (nB ea (by omega) (by omega) (by omega)) hb

set_option maxHeartbeats 2000000 in
set_option maxRecDepth 100000 in
theorem U_mostFor_y (l : Launch) (E : zE) (tm tl : Nat) (D : Nat → Prop) (fs : Nat) (o : oS) (xb : XB o.1) (f : Nat) (hf1 : 1 ≤ f) (hf2 : f ≤ o.1 13 0) : oM l yX6_mostFor wsX6_mostFor ({ frames := 5, cells := 0, slots := 0, locals := 112 }) E tm tl D fs [.ref fs, .int (nI f)] o (fun r o9 => (r = Int32.ofInt (max 0 (mstL (o.1 0) (o.1 1) (atN (o.1 0) f) (f - 1)))) ∧ o9 = o) := by
  obtain ⟨X, hl, len, Ch⟩ := o
  try dsimp only at *
  refine oM_rd (post := fun r => r = Int32.ofInt (max 0 (mstL (X 0) (X 1) (atN (X 0) f) (f - 1)))) (fun H hO => ?_)
  obtain ⟨sc, hi, ch, rw, ad, adA, adB, adC, adD, old, pl, fp, YA, YB, YC, YD, st, fr, fo, ti, to, hq, hP, hD⟩ := hO
  refine ⟨_, _, zP_left hP, c_X6_mostFor l E fs sc hi rw hl.length old (nI f) adA adB adC adD ad YA YB YC YD X xb.1 xb.2.1 xb.2.2.1 xb.2.2.2.2.2.1 xb.2.2.2.2.2.2.2.2.1, fun r hp => ?_⟩
  rcases hp with ⟨rfl, g6⟩ | ⟨f9, r9, rfl, ea, g1, g2, rfl⟩
  · have hx0 : X 13 0 ≤ 12 := xb.1
    have hf2 : f ≤ X 13 0 := hf2
    exact absurd (nB (k := f) rfl hf1 hf2 (by omega)) g6
  · have hx0 : X 13 0 ≤ 12 := xb.1
    have hf2 : f ≤ X 13 0 := hf2
    obtain rfl := z_inj (by omega) (by omega) ea
    rfl

set_option maxHeartbeats 2000000 in
set_option maxRecDepth 100000 in
theorem U_stringInfo_i (l : Launch) (E : zE) (tm tl : Nat) (D : Nat → Prop) (fs : Nat) (o : oS) (xb : XB o.1) (a v : Int32) (hb : ¬ ((nI 0 ≤ a ∧ a ≤ nI 3) ∧ (nI 0 ≤ v ∧ v ≤ nI 8))) : oM l yX6_stringInfo wsX6_stringInfo ({ frames := 2, cells := 0, slots := 0, locals := 45 }) E tm tl D fs [.ref fs, .int a, .int v] o (fun r o9 => (r = -1) ∧ o9 = o) := by
  obtain ⟨X, hl, len, Ch⟩ := o
  try dsimp only at *
  refine oM_rd (post := fun r => r = -1) (fun H hO => ?_)
  obtain ⟨sc, hi, ch, rw, ad, adA, adB, adC, adD, old, pl, fp, YA, YB, YC, YD, st, fr, fo, ti, to, hq, hP, hD⟩ := hO
  refine ⟨_, _, zP_left hP, c_X6_stringInfo l E fs sc hi rw hl.length old a v adA adB adC adD ad YA YB YC YD X xb.1 xb.2.1 xb.2.2.1 xb.2.2.2.2.2.1 xb.2.2.2.2.2.2.2.2.1 xb.2.2.2.2.2.2.2.1 xb.2.2.2.2.2.2.2.2.2.1 xb.2.2.2.2.2.2.2.2.2.2.2.2.2.2.2.2.1, fun r hp => ?_⟩
  rcases hp with ⟨rfl, g6⟩ | ⟨s9, w8, r9, rfl, ea, ev, hs9, g2, rfl⟩
  · rfl
  · exact absurd ⟨nB ea (by omega) (by omega) (by omega), nB ev (by omega) (by omega) (by omega)⟩ hb

set_option maxHeartbeats 2000000 in
set_option maxRecDepth 100000 in
theorem U_stringInfo_y (l : Launch) (E : zE) (tm tl : Nat) (D : Nat → Prop) (fs : Nat) (o : oS) (xb : XB o.1) (s w : Nat) (hs : s < 4) (hw : w ≤ 8) : oM l yX6_stringInfo wsX6_stringInfo ({ frames := 2, cells := 0, slots := 0, locals := 45 }) E tm tl D fs [.ref fs, .int (nI s), .int (nI w)] o (fun r o9 => (r = siX o.1 s w) ∧ o9 = o) := by
  obtain ⟨X, hl, len, Ch⟩ := o
  try dsimp only at *
  refine oM_rd (post := fun r => r = siX X s w) (fun H hO => ?_)
  obtain ⟨sc, hi, ch, rw, ad, adA, adB, adC, adD, old, pl, fp, YA, YB, YC, YD, st, fr, fo, ti, to, hq, hP, hD⟩ := hO
  refine ⟨_, _, zP_left hP, c_X6_stringInfo l E fs sc hi rw hl.length old (nI s) (nI w) adA adB adC adD ad YA YB YC YD X xb.1 xb.2.1 xb.2.2.1 xb.2.2.2.2.2.1 xb.2.2.2.2.2.2.2.2.1 xb.2.2.2.2.2.2.2.1 xb.2.2.2.2.2.2.2.2.2.1 xb.2.2.2.2.2.2.2.2.2.2.2.2.2.2.2.2.1, fun r hp => ?_⟩
  rcases hp with ⟨rfl, g6⟩ | ⟨s9, w8, r9, rfl, ea, ev, hs9, g2, rfl⟩
  · exact absurd ⟨nB (k := s) rfl (Nat.zero_le _) (by omega) (by omega), nB (k := w) rfl (Nat.zero_le _) hw (by omega)⟩ g6
  · obtain rfl := z_inj (by omega) (by omega) ea
    obtain rfl := z_inj (by omega) (by omega) ev
    rfl

set_option maxHeartbeats 2000000 in
set_option maxRecDepth 100000 in
theorem U_modeInfo_i (l : Launch) (E : zE) (tm tl : Nat) (D : Nat → Prop) (fs : Nat) (o : oS) (xb : XB o.1) (a v u : Int32) (hb : ¬ ((nI 0 ≤ a ∧ a ≤ nI 3) ∧ (nI 1 ≤ v ∧ v ≤ nI 12) ∧ (nI 0 ≤ u ∧ u ≤ nI 2))) : oM l yX6_modeInfo wsX6_modeInfo ({ frames := 2, cells := 0, slots := 0, locals := 47 }) E tm tl D fs [.ref fs, .int a, .int v, .int u] o (fun r o9 => (r = -1) ∧ o9 = o) := by
  obtain ⟨X, hl, len, Ch⟩ := o
  try dsimp only at *
  refine oM_rd (post := fun r => r = -1) (fun H hO => ?_)
  obtain ⟨sc, hi, ch, rw, ad, adA, adB, adC, adD, old, pl, fp, YA, YB, YC, YD, st, fr, fo, ti, to, hq, hP, hD⟩ := hO
  refine ⟨_, _, zP_left hP, c_X6_modeInfo l E fs sc hi rw hl.length old a v u adA adB adC adD ad YA YB YC YD X xb.1 xb.2.1 xb.2.2.1 xb.2.2.2.2.2.1 xb.2.2.2.2.2.2.2.2.1 xb.2.2.2.2.1, fun r hp => ?_⟩
  rcases hp with ⟨rfl, g6⟩ | ⟨s9, n9, w8, r9, rfl, ea, ev, eu, hs9, g1, g2, g3, rfl⟩
  · rfl
  · exact absurd ⟨nB ea (by omega) (by omega) (by omega), nB ev (by omega) (by omega) (by omega), nB eu (by omega) (by omega) (by omega)⟩ hb

set_option maxHeartbeats 2000000 in
set_option maxRecDepth 100000 in
theorem U_modeInfo_y (l : Launch) (E : zE) (tm tl : Nat) (D : Nat → Prop) (fs : Nat) (o : oS) (xb : XB o.1) (s n w : Nat) (hs : s < 4) (hn1 : 1 ≤ n) (hn2 : n ≤ 12) (hw : w ≤ 2) : oM l yX6_modeInfo wsX6_modeInfo ({ frames := 2, cells := 0, slots := 0, locals := 47 }) E tm tl D fs [.ref fs, .int (nI s), .int (nI n), .int (nI w)] o (fun r o9 => (r = miX o.1 s n w) ∧ o9 = o) := by
  obtain ⟨X, hl, len, Ch⟩ := o
  try dsimp only at *
  refine oM_rd (post := fun r => r = miX X s n w) (fun H hO => ?_)
  obtain ⟨sc, hi, ch, rw, ad, adA, adB, adC, adD, old, pl, fp, YA, YB, YC, YD, st, fr, fo, ti, to, hq, hP, hD⟩ := hO
  refine ⟨_, _, zP_left hP, c_X6_modeInfo l E fs sc hi rw hl.length old (nI s) (nI n) (nI w) adA adB adC adD ad YA YB YC YD X xb.1 xb.2.1 xb.2.2.1 xb.2.2.2.2.2.1 xb.2.2.2.2.2.2.2.2.1 xb.2.2.2.2.1, fun r hp => ?_⟩
  rcases hp with ⟨rfl, g6⟩ | ⟨s9, n9, w8, r9, rfl, ea, ev, eu, hs9, g1, g2, g3, rfl⟩
  · exact absurd ⟨nB (k := s) rfl (Nat.zero_le _) (by omega) (by omega), nB (k := n) rfl hn1 hn2 (by omega), nB (k := w) rfl (Nat.zero_le _) hw (by omega)⟩ g6
  · obtain rfl := z_inj (by omega) (by omega) ea
    obtain rfl := z_inj (by omega) (by omega) ev
    obtain rfl := z_inj (by omega) (by omega) eu
    rfl

set_option maxHeartbeats 2000000 in
set_option maxRecDepth 100000 in
theorem U_node_i (l : Launch) (E : zE) (tm tl : Nat) (D : Nat → Prop) (fs : Nat) (o : oS) (xb : XB o.1) (a v u : Int32) (hb : ¬ ((nI 0 ≤ a ∧ a ≤ nI 3) ∧ (nI 1 ≤ v ∧ v ≤ nI 12) ∧ (nI 1 ≤ u ∧ u ≤ nI 2519))) : oM l yX6_node wsX6_node ({ frames := 2, cells := 0, slots := 0, locals := 47 }) E tm tl D fs [.ref fs, .int a, .int v, .int u] o (fun r o9 => (r = -1) ∧ o9 = o) := by
  obtain ⟨X, hl, len, Ch⟩ := o
  try dsimp only at *
  refine oM_rd (post := fun r => r = -1) (fun H hO => ?_)
  obtain ⟨sc, hi, ch, rw, ad, adA, adB, adC, adD, old, pl, fp, YA, YB, YC, YD, st, fr, fo, ti, to, hq, hP, hD⟩ := hO
  refine ⟨_, _, zP_left hP, c_X6_node l E fs sc hi rw hl.length old a v u adA adB adC adD ad YA YB YC YD X xb.1 xb.2.1 xb.2.2.1 xb.2.2.2.2.2.1 xb.2.2.2.2.2.2.2.2.1, fun r hp => ?_⟩
  rcases hp with ⟨rfl, g6⟩ | ⟨s9, n9, y9, rfl, ea, ev, eu, hs9, g1, g2, g3, g4, g5⟩ | ⟨s9, n9, y9, rfl, ea, ev, eu, hs9, g1, g2, g3, g4, g5, g9⟩ | ⟨s9, n9, y9, rfl, ea, ev, eu, hs9, g1, g2, g3, g4, g5, g9⟩
  · rfl
  · exact absurd ⟨nB ea (by omega) (by omega) (by omega), nB ev (by omega) (by omega) (by omega), nB eu (by omega) (by omega) (by omega)⟩ hb
  · exact absurd ⟨nB ea (by omega) (by omega) (by omega), nB ev (by omega) (by omega) (by omega), nB eu (by omega) (by omega) (by omega)⟩ hb
  · exact absurd ⟨nB ea (by omega) (by omega) (by omega), nB ev (by omega) (by omega) (by omega), nB eu (by omega) (by omega) (by omega)⟩ hb

set_option maxHeartbeats 2000000 in
set_option maxRecDepth 100000 in
theorem U_node_f (l : Launch) (E : zE) (tm tl : Nat) (D : Nat → Prop) (fs : Nat) (o : oS) (xb : XB o.1) (s n y : Nat) (hs : s < 4) (hn1 : 1 ≤ n) (hn2 : n ≤ 12) (hy1 : 1 ≤ y) (hy2 : y ≤ 2519) (hx : y ≤ o.1 8 s) : oM l yX6_node wsX6_node ({ frames := 2, cells := 0, slots := 0, locals := 47 }) E tm tl D fs [.ref fs, .int (nI s), .int (nI n), .int (nI y)] o (fun r o9 => (r = -4) ∧ o9 = o) := by
  obtain ⟨X, hl, len, Ch⟩ := o
  try dsimp only at *
  refine oM_rd (post := fun r => r = -4) (fun H hO => ?_)
  obtain ⟨sc, hi, ch, rw, ad, adA, adB, adC, adD, old, pl, fp, YA, YB, YC, YD, st, fr, fo, ti, to, hq, hP, hD⟩ := hO
  refine ⟨_, _, zP_left hP, c_X6_node l E fs sc hi rw hl.length old (nI s) (nI n) (nI y) adA adB adC adD ad YA YB YC YD X xb.1 xb.2.1 xb.2.2.1 xb.2.2.2.2.2.1 xb.2.2.2.2.2.2.2.2.1, fun r hp => ?_⟩
  rcases hp with ⟨rfl, g6⟩ | ⟨s9, n9, y9, rfl, ea, ev, eu, hs9, g1, g2, g3, g4, g5⟩ | ⟨s9, n9, y9, rfl, ea, ev, eu, hs9, g1, g2, g3, g4, g5, g9⟩ | ⟨s9, n9, y9, rfl, ea, ev, eu, hs9, g1, g2, g3, g4, g5, g9⟩
  · exact absurd ⟨nB (k := s) rfl (Nat.zero_le _) (by omega) (by omega), nB (k := n) rfl hn1 hn2 (by omega), nB (k := y) rfl hy1 hy2 (by omega)⟩ g6
  · rfl
  · obtain rfl := z_inj (by omega) (by omega) ea
    obtain rfl := z_inj (by omega) (by omega) ev
    obtain rfl := z_inj (by omega) (by omega) eu
    exact absurd g5 (Nat.not_lt.mpr hx)
  · obtain rfl := z_inj (by omega) (by omega) ea
    obtain rfl := z_inj (by omega) (by omega) ev
    obtain rfl := z_inj (by omega) (by omega) eu
    exact absurd g5 (Nat.not_lt.mpr hx)

set_option maxHeartbeats 2000000 in
set_option maxRecDepth 100000 in
theorem U_node_y (l : Launch) (E : zE) (tm tl : Nat) (D : Nat → Prop) (fs : Nat) (o : oS) (xb : XB o.1) (s n y : Nat) (hs : s < 4) (hn1 : 1 ≤ n) (hn2 : n ≤ 12) (hy1 : 1 ≤ y) (hy2 : y ≤ 2519) (hx : o.1 8 s < y) : oM l yX6_node wsX6_node ({ frames := 2, cells := 0, slots := 0, locals := 47 }) E tm tl D fs [.ref fs, .int (nI s), .int (nI n), .int (nI y)] o (fun r o9 => (r = if dist n (y - o.1 8 s) (2520 - o.1 8 s) = 0 then nI 1 else nI 0) ∧ o9 = o) := by
  obtain ⟨X, hl, len, Ch⟩ := o
  try dsimp only at *
  refine oM_rd (post := fun r => r = if dist n (y - X 8 s) (2520 - X 8 s) = 0 then nI 1 else nI 0) (fun H hO => ?_)
  obtain ⟨sc, hi, ch, rw, ad, adA, adB, adC, adD, old, pl, fp, YA, YB, YC, YD, st, fr, fo, ti, to, hq, hP, hD⟩ := hO
  refine ⟨_, _, zP_left hP, c_X6_node l E fs sc hi rw hl.length old (nI s) (nI n) (nI y) adA adB adC adD ad YA YB YC YD X xb.1 xb.2.1 xb.2.2.1 xb.2.2.2.2.2.1 xb.2.2.2.2.2.2.2.2.1, fun r hp => ?_⟩
  rcases hp with ⟨rfl, g6⟩ | ⟨s9, n9, y9, rfl, ea, ev, eu, hs9, g1, g2, g3, g4, g5⟩ | ⟨s9, n9, y9, rfl, ea, ev, eu, hs9, g1, g2, g3, g4, g5, g9⟩ | ⟨s9, n9, y9, rfl, ea, ev, eu, hs9, g1, g2, g3, g4, g5, g9⟩
  · exact absurd ⟨nB (k := s) rfl (Nat.zero_le _) (by omega) (by omega), nB (k := n) rfl hn1 hn2 (by omega), nB (k := y) rfl hy1 hy2 (by omega)⟩ g6
  · obtain rfl := z_inj (by omega) (by omega) ea
    obtain rfl := z_inj (by omega) (by omega) ev
    obtain rfl := z_inj (by omega) (by omega) eu
    exact absurd hx (Nat.not_lt.mpr g5)
  · obtain rfl := z_inj (by omega) (by omega) ea
    obtain rfl := z_inj (by omega) (by omega) ev
    obtain rfl := z_inj (by omega) (by omega) eu
    rw [if_pos g9]
  · obtain rfl := z_inj (by omega) (by omega) ea
    obtain rfl := z_inj (by omega) (by omega) ev
    obtain rfl := z_inj (by omega) (by omega) eu
    rw [if_neg g9]

set_option maxHeartbeats 2000000 in
set_option maxRecDepth 100000 in
theorem U_nodeAgain_i (l : Launch) (E : zE) (tm tl : Nat) (D : Nat → Prop) (fs : Nat) (o : oS) (xb : XB o.1) (a v u : Int32) (hb : ¬ ((nI 0 ≤ a ∧ a ≤ nI 3) ∧ (nI 1 ≤ v ∧ v ≤ nI 12) ∧ (nI 1 ≤ u ∧ u ≤ nI 2519))) : oM l yX6_nodeAgain wsX6_nodeAgain ({ frames := 2, cells := 0, slots := 0, locals := 51 }) E tm tl D fs [.ref fs, .int a, .int v, .int u] o (fun r o9 => (r = -1) ∧ o9 = o) := by
  obtain ⟨X, hl, len, Ch⟩ := o
  try dsimp only at *
  refine oM_rd (post := fun r => r = -1) (fun H hO => ?_)
  obtain ⟨sc, hi, ch, rw, ad, adA, adB, adC, adD, old, pl, fp, YA, YB, YC, YD, st, fr, fo, ti, to, hq, hP, hD⟩ := hO
  refine ⟨_, _, zP_left hP, c_X6_nodeAgain l E fs sc hi rw hl.length old a v u adA adB adC adD ad YA YB YC YD X xb.1 xb.2.1 xb.2.2.1 xb.2.2.2.2.2.1 xb.2.2.2.2.2.2.2.2.1, fun r hp => ?_⟩
  rcases hp with ⟨rfl, g6⟩ | ⟨s9, n9, y9, rfl, ea, ev, eu, hs9, g1, g2, g3, g4, g5⟩ | ⟨s9, n9, y9, rfl, ea, ev, eu, hs9, g1, g2, g3, g4, g5, g9⟩ | ⟨s9, n9, y9, rfl, ea, ev, eu, hs9, g1, g2, g3, g4, g5, g9⟩
  · rfl
  · exact absurd ⟨nB ea (by omega) (by omega) (by omega), nB ev (by omega) (by omega) (by omega), nB eu (by omega) (by omega) (by omega)⟩ hb
  · exact absurd ⟨nB ea (by omega) (by omega) (by omega), nB ev (by omega) (by omega) (by omega), nB eu (by omega) (by omega) (by omega)⟩ hb
  · exact absurd ⟨nB ea (by omega) (by omega) (by omega), nB ev (by omega) (by omega) (by omega), nB eu (by omega) (by omega) (by omega)⟩ hb

set_option maxHeartbeats 2000000 in
set_option maxRecDepth 100000 in
theorem U_nodeAgain_f (l : Launch) (E : zE) (tm tl : Nat) (D : Nat → Prop) (fs : Nat) (o : oS) (xb : XB o.1) (s n y : Nat) (hs : s < 4) (hn1 : 1 ≤ n) (hn2 : n ≤ 12) (hy1 : 1 ≤ y) (hy2 : y ≤ 2519) (hx : y ≤ o.1 8 s) : oM l yX6_nodeAgain wsX6_nodeAgain ({ frames := 2, cells := 0, slots := 0, locals := 51 }) E tm tl D fs [.ref fs, .int (nI s), .int (nI n), .int (nI y)] o (fun r o9 => (r = -4) ∧ o9 = o) := by
  obtain ⟨X, hl, len, Ch⟩ := o
  try dsimp only at *
  refine oM_rd (post := fun r => r = -4) (fun H hO => ?_)
  obtain ⟨sc, hi, ch, rw, ad, adA, adB, adC, adD, old, pl, fp, YA, YB, YC, YD, st, fr, fo, ti, to, hq, hP, hD⟩ := hO
  refine ⟨_, _, zP_left hP, c_X6_nodeAgain l E fs sc hi rw hl.length old (nI s) (nI n) (nI y) adA adB adC adD ad YA YB YC YD X xb.1 xb.2.1 xb.2.2.1 xb.2.2.2.2.2.1 xb.2.2.2.2.2.2.2.2.1, fun r hp => ?_⟩
  rcases hp with ⟨rfl, g6⟩ | ⟨s9, n9, y9, rfl, ea, ev, eu, hs9, g1, g2, g3, g4, g5⟩ | ⟨s9, n9, y9, rfl, ea, ev, eu, hs9, g1, g2, g3, g4, g5, g9⟩ | ⟨s9, n9, y9, rfl, ea, ev, eu, hs9, g1, g2, g3, g4, g5, g9⟩
  · exact absurd ⟨nB (k := s) rfl (Nat.zero_le _) (by omega) (by omega), nB (k := n) rfl hn1 hn2 (by omega), nB (k := y) rfl hy1 hy2 (by omega)⟩ g6
  · rfl
  · obtain rfl := z_inj (by omega) (by omega) ea
    obtain rfl := z_inj (by omega) (by omega) ev
    obtain rfl := z_inj (by omega) (by omega) eu
    exact absurd g5 (Nat.not_lt.mpr hx)
  · obtain rfl := z_inj (by omega) (by omega) ea
    obtain rfl := z_inj (by omega) (by omega) ev
    obtain rfl := z_inj (by omega) (by omega) eu
    exact absurd g5 (Nat.not_lt.mpr hx)

set_option maxHeartbeats 2000000 in
set_option maxRecDepth 100000 in
theorem U_nodeAgain_y (l : Launch) (E : zE) (tm tl : Nat) (D : Nat → Prop) (fs : Nat) (o : oS) (xb : XB o.1) (s n y : Nat) (hs : s < 4) (hn1 : 1 ≤ n) (hn2 : n ≤ 12) (hy1 : 1 ≤ y) (hy2 : y ≤ 2519) (hx : o.1 8 s < y) : oM l yX6_nodeAgain wsX6_nodeAgain ({ frames := 2, cells := 0, slots := 0, locals := 51 }) E tm tl D fs [.ref fs, .int (nI s), .int (nI n), .int (nI y)] o (fun r o9 => (r = if n % ((2520 - o.1 8 s) / Nat.gcd (2520 - o.1 8 s) (y - o.1 8 s)) = 0 then nI 1 else nI 0) ∧ o9 = o) := by
  obtain ⟨X, hl, len, Ch⟩ := o
  try dsimp only at *
  refine oM_rd (post := fun r => r = if n % ((2520 - X 8 s) / Nat.gcd (2520 - X 8 s) (y - X 8 s)) = 0 then nI 1 else nI 0) (fun H hO => ?_)
  obtain ⟨sc, hi, ch, rw, ad, adA, adB, adC, adD, old, pl, fp, YA, YB, YC, YD, st, fr, fo, ti, to, hq, hP, hD⟩ := hO
  refine ⟨_, _, zP_left hP, c_X6_nodeAgain l E fs sc hi rw hl.length old (nI s) (nI n) (nI y) adA adB adC adD ad YA YB YC YD X xb.1 xb.2.1 xb.2.2.1 xb.2.2.2.2.2.1 xb.2.2.2.2.2.2.2.2.1, fun r hp => ?_⟩
  rcases hp with ⟨rfl, g6⟩ | ⟨s9, n9, y9, rfl, ea, ev, eu, hs9, g1, g2, g3, g4, g5⟩ | ⟨s9, n9, y9, rfl, ea, ev, eu, hs9, g1, g2, g3, g4, g5, g9⟩ | ⟨s9, n9, y9, rfl, ea, ev, eu, hs9, g1, g2, g3, g4, g5, g9⟩
  · exact absurd ⟨nB (k := s) rfl (Nat.zero_le _) (by omega) (by omega), nB (k := n) rfl hn1 hn2 (by omega), nB (k := y) rfl hy1 hy2 (by omega)⟩ g6
  · obtain rfl := z_inj (by omega) (by omega) ea
    obtain rfl := z_inj (by omega) (by omega) ev
    obtain rfl := z_inj (by omega) (by omega) eu
    exact absurd hx (Nat.not_lt.mpr g5)
  · obtain rfl := z_inj (by omega) (by omega) ea
    obtain rfl := z_inj (by omega) (by omega) ev
    obtain rfl := z_inj (by omega) (by omega) eu
    rw [if_pos g9]
  · obtain rfl := z_inj (by omega) (by omega) ea
    obtain rfl := z_inj (by omega) (by omega) ev
    obtain rfl := z_inj (by omega) (by omega) eu
    rw [if_neg g9]

set_option maxHeartbeats 2000000 in
set_option maxRecDepth 100000 in
theorem U_ticksTo_i (l : Launch) (E : zE) (tm tl : Nat) (D : Nat → Prop) (fs : Nat) (o : oS) (xb : XB o.1) (a v : Int32) (hb : ¬ ((nI 0 ≤ a ∧ a ≤ nI 3) ∧ (nI 1 ≤ v ∧ v ≤ nI 12))) : oM l yX6_ticksTo wsX6_ticksTo ({ frames := 4, cells := 0, slots := 0, locals := 94 }) E tm tl D fs [.ref fs, .int a, .int v] o (fun r o9 => (r = -1) ∧ o9 = o) := by
  obtain ⟨X, hl, len, Ch⟩ := o
  try dsimp only at *
  refine oM_rd (post := fun r => r = -1) (fun H hO => ?_)
  obtain ⟨sc, hi, ch, rw, ad, adA, adB, adC, adD, old, pl, fp, YA, YB, YC, YD, st, fr, fo, ti, to, hq, hP, hD⟩ := hO
  refine ⟨_, _, zP_left hP, c_X6_ticksTo l E fs sc hi rw hl.length old a v adA adB adC adD ad YA YB YC YD X xb.1 xb.2.1 xb.2.2.1 xb.2.2.2.2.2.1 xb.2.2.2.2.2.2.2.2.1 xb.2.2.2.2.2.2.1 xb.2.2.2.2.2.2.2.2.2.1 xb.2.2.2.2.2.2.2.2.2.2.2.2.1 xb.2.2.2.2.2.2.2.2.2.2.2.2.2.1 xb.2.2.2.2.2.2.2.2.2.2.2.2.2.2.1 xb.2.2.2.2.2.2.2.2.2.2.2.2.2.2.2.2.1, fun r hp => ?_⟩
  rcases hp with ⟨rfl, g6⟩ | ⟨s9, n9, r9, rfl, ea, ev, hs9, g1, g2, rfl⟩
  · rfl
  · exact absurd ⟨nB ea (by omega) (by omega) (by omega), nB ev (by omega) (by omega) (by omega)⟩ hb

set_option maxHeartbeats 2000000 in
set_option maxRecDepth 100000 in
theorem U_ticksTo_y (l : Launch) (E : zE) (tm tl : Nat) (D : Nat → Prop) (fs : Nat) (o : oS) (xb : XB o.1) (s n : Nat) (hs : s < 4) (hn1 : 1 ≤ n) (hn2 : n ≤ 12) : oM l yX6_ticksTo wsX6_ticksTo ({ frames := 4, cells := 0, slots := 0, locals := 94 }) E tm tl D fs [.ref fs, .int (nI s), .int (nI n)] o (fun r o9 => (r = ttu (o.1 12 4) (o.1 12 0) (o.1 12 1) (o.1 12 2) n (dmp (o.1 5) (o.1 8) s n) 2001 0 (o.1 9 (s * 12 + n - 1))) ∧ o9 = o) := by
  obtain ⟨X, hl, len, Ch⟩ := o
  try dsimp only at *
  refine oM_rd (post := fun r => r = ttu (X 12 4) (X 12 0) (X 12 1) (X 12 2) n (dmp (X 5) (X 8) s n) 2001 0 (X 9 (s * 12 + n - 1))) (fun H hO => ?_)
  obtain ⟨sc, hi, ch, rw, ad, adA, adB, adC, adD, old, pl, fp, YA, YB, YC, YD, st, fr, fo, ti, to, hq, hP, hD⟩ := hO
  refine ⟨_, _, zP_left hP, c_X6_ticksTo l E fs sc hi rw hl.length old (nI s) (nI n) adA adB adC adD ad YA YB YC YD X xb.1 xb.2.1 xb.2.2.1 xb.2.2.2.2.2.1 xb.2.2.2.2.2.2.2.2.1 xb.2.2.2.2.2.2.1 xb.2.2.2.2.2.2.2.2.2.1 xb.2.2.2.2.2.2.2.2.2.2.2.2.1 xb.2.2.2.2.2.2.2.2.2.2.2.2.2.1 xb.2.2.2.2.2.2.2.2.2.2.2.2.2.2.1 xb.2.2.2.2.2.2.2.2.2.2.2.2.2.2.2.2.1, fun r hp => ?_⟩
  rcases hp with ⟨rfl, g6⟩ | ⟨s9, n9, r9, rfl, ea, ev, hs9, g1, g2, rfl⟩
  · exact absurd ⟨nB (k := s) rfl (Nat.zero_le _) (by omega) (by omega), nB (k := n) rfl hn1 hn2 (by omega)⟩ g6
  · obtain rfl := z_inj (by omega) (by omega) ea
    obtain rfl := z_inj (by omega) (by omega) ev
    rfl

set_option maxHeartbeats 2000000 in
set_option maxRecDepth 100000 in
theorem U_beat_i (l : Launch) (E : zE) (tm tl : Nat) (D : Nat → Prop) (fs : Nat) (o : oS) (xb : XB o.1) (a u b v : Int32) (hb : ¬ (((nI 0 ≤ a ∧ a ≤ nI 3) ∧ (nI 0 ≤ b ∧ b ≤ nI 3) ∧ a ≠ b) ∧ (nI 1 ≤ u ∧ u ≤ nI 12) ∧ (nI 1 ≤ v ∧ v ≤ nI 12))) : oM l yX6_beat wsX6_beat ({ frames := 3, cells := 0, slots := 0, locals := 68 }) E tm tl D fs [.ref fs, .int a, .int u, .int b, .int v] o (fun r o9 => (r = -1) ∧ o9 = o) := by
  obtain ⟨X, hl, len, Ch⟩ := o
  try dsimp only at *
  refine oM_rd (post := fun r => r = -1) (fun H hO => ?_)
  obtain ⟨sc, hi, ch, rw, ad, adA, adB, adC, adD, old, pl, fp, YA, YB, YC, YD, st, fr, fo, ti, to, hq, hP, hD⟩ := hO
  refine ⟨_, _, zP_left hP, c_X6_beat l E fs sc hi rw hl.length old a u b v adA adB adC adD ad YA YB YC YD X xb.1 xb.2.1 xb.2.2.1 xb.2.2.2.2.2.1 xb.2.2.2.2.2.2.2.2.1 xb.2.2.2.2.1 xb.2.2.2.2.2.2.2.2.2.1 xb.2.2.2.2.2.2.2.2.2.2.2.2.2.2.2.2.1, fun r hp => ?_⟩
  rcases hp with ⟨rfl, g6⟩ | ⟨a9, n9, b9, m9, r9, rfl, ea, eu, eb, ev, ha9, hb9, hne, g1, g2, g3, g4, rfl⟩
  · rfl
  · exact absurd ⟨⟨nB ea (by omega) (by omega) (by omega), nB eb (by omega) (by omega) (by omega), (fun q => hne (z_inj (by omega) (by omega) (ea.symm.trans (q.trans eb))))⟩, nB eu (by omega) (by omega) (by omega), nB ev (by omega) (by omega) (by omega)⟩ hb

set_option maxHeartbeats 2000000 in
set_option maxRecDepth 100000 in
theorem U_beat_y (l : Launch) (E : zE) (tm tl : Nat) (D : Nat → Prop) (fs : Nat) (o : oS) (xb : XB o.1) (a n b m : Nat) (ha : a < 4) (hb : b < 4) (hab : a ≠ b) (hn1 : 1 ≤ n) (hn2 : n ≤ 12) (hm1 : 1 ≤ m) (hm2 : m ≤ 12) : oM l yX6_beat wsX6_beat ({ frames := 3, cells := 0, slots := 0, locals := 68 }) E tm tl D fs [.ref fs, .int (nI a), .int (nI n), .int (nI b), .int (nI m)] o (fun r o9 => (r = if beatV (o.1 3) (o.1 8) (o.1 9) (o.1 12 4) a n b m = 0 then -4 else nI (beatV (o.1 3) (o.1 8) (o.1 9) (o.1 12 4) a n b m)) ∧ o9 = o) := by
  obtain ⟨X, hl, len, Ch⟩ := o
  try dsimp only at *
  refine oM_rd (post := fun r => r = if beatV (X 3) (X 8) (X 9) (X 12 4) a n b m = 0 then -4 else nI (beatV (X 3) (X 8) (X 9) (X 12 4) a n b m)) (fun H hO => ?_)
  obtain ⟨sc, hi, ch, rw, ad, adA, adB, adC, adD, old, pl, fp, YA, YB, YC, YD, st, fr, fo, ti, to, hq, hP, hD⟩ := hO
  refine ⟨_, _, zP_left hP, c_X6_beat l E fs sc hi rw hl.length old (nI a) (nI n) (nI b) (nI m) adA adB adC adD ad YA YB YC YD X xb.1 xb.2.1 xb.2.2.1 xb.2.2.2.2.2.1 xb.2.2.2.2.2.2.2.2.1 xb.2.2.2.2.1 xb.2.2.2.2.2.2.2.2.2.1 xb.2.2.2.2.2.2.2.2.2.2.2.2.2.2.2.2.1, fun r hp => ?_⟩
  rcases hp with ⟨rfl, g6⟩ | ⟨a9, n9, b9, m9, r9, rfl, ea, eu, eb, ev, ha9, hb9, hne, g1, g2, g3, g4, rfl⟩
  · exact absurd ⟨⟨nB (k := a) rfl (Nat.zero_le _) (by omega) (by omega), nB (k := b) rfl (Nat.zero_le _) (by omega) (by omega), (fun q => hab (z_inj (by omega) (by omega) q))⟩, nB (k := n) rfl hn1 hn2 (by omega), nB (k := m) rfl hm1 hm2 (by omega)⟩ g6
  · obtain rfl := z_inj (by omega) (by omega) ea
    obtain rfl := z_inj (by omega) (by omega) eu
    obtain rfl := z_inj (by omega) (by omega) eb
    obtain rfl := z_inj (by omega) (by omega) ev
    rfl

set_option maxHeartbeats 2000000 in
set_option maxRecDepth 100000 in
theorem U_slowest_i (l : Launch) (E : zE) (tm tl : Nat) (D : Nat → Prop) (fs : Nat) (o : oS) (xb : XB o.1) (a b w : Int32) (hb : ¬ (((nI 0 ≤ a ∧ a ≤ nI 3) ∧ (nI 0 ≤ b ∧ b ≤ nI 3) ∧ a ≠ b) ∧ nI 0 ≤ w ∧ w ≤ nI 2)) : oM l yX6_slowest wsX6_slowest ({ frames := 4, cells := 0, slots := 0, locals := 97 }) E tm tl D fs [.ref fs, .int a, .int b, .int w] o (fun r o9 => (r = -1) ∧ o9 = o) := by
  obtain ⟨X, hl, len, Ch⟩ := o
  try dsimp only at *
  refine oM_rd (post := fun r => r = -1) (fun H hO => ?_)
  obtain ⟨sc, hi, ch, rw, ad, adA, adB, adC, adD, old, pl, fp, YA, YB, YC, YD, st, fr, fo, ti, to, hq, hP, hD⟩ := hO
  refine ⟨_, _, zP_left hP, c_X6_slowest l E fs sc hi rw hl.length old a b w adA adB adC adD ad YA YB YC YD X xb.1 xb.2.1 xb.2.2.1 xb.2.2.2.2.2.1 xb.2.2.2.2.2.2.2.2.1 xb.2.2.2.2.1 xb.2.2.2.2.2.2.2.2.2.1 xb.2.2.2.2.2.2.2.2.2.2.2.2.2.2.2.2.1, fun r hp => ?_⟩
  rcases hp with ⟨rfl, g6⟩ | ⟨a9, b9, k9, r9, rfl, ea, eb, ew, ha9, hb9, hne, hk9, rfl⟩
  · rfl
  · have hw := nB ew (Nat.zero_le k9) hk9 (by omega)
    exact absurd ⟨⟨nB ea (by omega) (by omega) (by omega), nB eb (by omega) (by omega) (by omega), (fun q => hne (z_inj (by omega) (by omega) (ea.symm.trans (q.trans eb))))⟩, hw.1, hw.2⟩ hb

set_option maxHeartbeats 2000000 in
set_option maxRecDepth 100000 in
theorem U_slowest_y (l : Launch) (E : zE) (tm tl : Nat) (D : Nat → Prop) (fs : Nat) (o : oS) (xb : XB o.1) (a b k : Nat) (ha : a < 4) (hb : b < 4) (hab : a ≠ b) (hk : k ≤ 2) : oM l yX6_slowest wsX6_slowest ({ frames := 4, cells := 0, slots := 0, locals := 97 }) E tm tl D fs [.ref fs, .int (nI a), .int (nI b), .int (nI k)] o (fun r o9 => (r = if (slL (o.1 3) (o.1 8) (o.1 9) (o.1 12 4) a b 144).1 = 0 then -4 else if k = 0 then nI (slL (o.1 3) (o.1 8) (o.1 9) (o.1 12 4) a b 144).1 else if k = 1 then nI (slL (o.1 3) (o.1 8) (o.1 9) (o.1 12 4) a b 144).2.1 else nI (slL (o.1 3) (o.1 8) (o.1 9) (o.1 12 4) a b 144).2.2) ∧ o9 = o) := by
  obtain ⟨X, hl, len, Ch⟩ := o
  try dsimp only at *
  refine oM_rd (post := fun r => r = if (slL (X 3) (X 8) (X 9) (X 12 4) a b 144).1 = 0 then -4 else if k = 0 then nI (slL (X 3) (X 8) (X 9) (X 12 4) a b 144).1 else if k = 1 then nI (slL (X 3) (X 8) (X 9) (X 12 4) a b 144).2.1 else nI (slL (X 3) (X 8) (X 9) (X 12 4) a b 144).2.2) (fun H hO => ?_)
  obtain ⟨sc, hi, ch, rw, ad, adA, adB, adC, adD, old, pl, fp, YA, YB, YC, YD, st, fr, fo, ti, to, hq, hP, hD⟩ := hO
  refine ⟨_, _, zP_left hP, c_X6_slowest l E fs sc hi rw hl.length old (nI a) (nI b) (nI k) adA adB adC adD ad YA YB YC YD X xb.1 xb.2.1 xb.2.2.1 xb.2.2.2.2.2.1 xb.2.2.2.2.2.2.2.2.1 xb.2.2.2.2.1 xb.2.2.2.2.2.2.2.2.2.1 xb.2.2.2.2.2.2.2.2.2.2.2.2.2.2.2.2.1, fun r hp => ?_⟩
  rcases hp with ⟨rfl, g6⟩ | ⟨a9, b9, k9, r9, rfl, ea, eb, ew, ha9, hb9, hne, hk9, rfl⟩
  · have hw := nB (k := k) rfl (Nat.zero_le k) hk (by omega)
    exact absurd ⟨⟨nB (k := a) rfl (Nat.zero_le _) (by omega) (by omega), nB (k := b) rfl (Nat.zero_le _) (by omega) (by omega), (fun q => hab (z_inj (by omega) (by omega) q))⟩, hw.1, hw.2⟩ g6
  · obtain rfl := z_inj (by omega) (by omega) ea
    obtain rfl := z_inj (by omega) (by omega) eb
    obtain rfl := z_inj (by omega) (by omega) ew
    rfl

set_option maxHeartbeats 2000000 in
set_option maxRecDepth 100000 in
theorem U_played_i (l : Launch) (E : zE) (tm tl : Nat) (D : Nat → Prop) (fs : Nat) (o : oS) (xb : XB o.1) (a v : Int32) (hb : a < nI 0 ∨ ¬ (nI 0 ≤ v ∧ v ≤ nI 2)) : oM l yX6_played wsX6_played ({ frames := 2, cells := 0, slots := 0, locals := 43 }) E tm tl D fs [.ref fs, .int a, .int v] o (fun r o9 => (r = -1) ∧ o9 = o) := by
  obtain ⟨X, hl, len, Ch⟩ := o
  try dsimp only at *
  refine oM_rd (post := fun r => r = -1) (fun H hO => ?_)
  obtain ⟨sc, hi, ch, rw, ad, adA, adB, adC, adD, old, pl, fp, YA, YB, YC, YD, st, fr, fo, ti, to, hq, hP, hD⟩ := hO
  refine ⟨_, _, zP_sub hP [0, 1, 14, 15, 16] rfl, c_X6_played l E fs sc hi a v ad X xb.2.2.2.2.2.2.2.2.2.2.2.2.2.2.2.2.2.1 xb.2.2.2.2.2.2.2.2.2.2.1, fun r hp => ?_⟩
  rcases hp with ⟨rfl, g6⟩ | ⟨w8, rfl, g1, ev, g2⟩ | ⟨k9, w8, r9, rfl, ea, ev, g1, g2, rfl⟩
  · rfl
  · have hsz : X 13 1 ≤ 52 := xb.2.2.2.2.2.2.2.2.2.2.2.2.2.2.2.2.2.1
    rcases hb with z | z
    · rw [Int32.le_iff_toInt_le, nI_toInt (by omega)] at g1
      rw [Int32.lt_iff_toInt_lt, nI_toInt (by omega)] at z
      omega
    · exact absurd (nB ev (by omega) (by omega) (by omega)) z
  · have hsz : X 13 1 ≤ 52 := xb.2.2.2.2.2.2.2.2.2.2.2.2.2.2.2.2.2.1
    rcases hb with z | z
    · rw [ea, Int32.lt_iff_toInt_lt, nI_toInt (by omega), nI_toInt (by omega)] at z
      omega
    · exact absurd (nB ev (by omega) (by omega) (by omega)) z

set_option maxHeartbeats 2000000 in
set_option maxRecDepth 100000 in
theorem U_played_f (l : Launch) (E : zE) (tm tl : Nat) (D : Nat → Prop) (fs : Nat) (o : oS) (xb : XB o.1) (k w : Nat) (hk : o.1 13 1 ≤ k) (hk2 : k < 1000000) (hw : w ≤ 2) : oM l yX6_played wsX6_played ({ frames := 2, cells := 0, slots := 0, locals := 43 }) E tm tl D fs [.ref fs, .int (nI k), .int (nI w)] o (fun r o9 => (r = -4) ∧ o9 = o) := by
  obtain ⟨X, hl, len, Ch⟩ := o
  try dsimp only at *
  refine oM_rd (post := fun r => r = -4) (fun H hO => ?_)
  obtain ⟨sc, hi, ch, rw, ad, adA, adB, adC, adD, old, pl, fp, YA, YB, YC, YD, st, fr, fo, ti, to, hq, hP, hD⟩ := hO
  refine ⟨_, _, zP_sub hP [0, 1, 14, 15, 16] rfl, c_X6_played l E fs sc hi (nI k) (nI w) ad X xb.2.2.2.2.2.2.2.2.2.2.2.2.2.2.2.2.2.1 xb.2.2.2.2.2.2.2.2.2.2.1, fun r hp => ?_⟩
  rcases hp with ⟨rfl, g6⟩ | ⟨w8, rfl, g1, ev, g2⟩ | ⟨k9, w8, r9, rfl, ea, ev, g1, g2, rfl⟩
  · have hsz : X 13 1 ≤ 52 := xb.2.2.2.2.2.2.2.2.2.2.2.2.2.2.2.2.2.1
    rcases g6 with z | z
    · rw [Int32.lt_iff_toInt_lt, nI_toInt (by omega), nI_toInt (by omega)] at z
      omega
    · exact absurd (nB (k := w) rfl (Nat.zero_le _) hw (by omega)) z
  · rfl
  · have hsz : X 13 1 ≤ 52 := xb.2.2.2.2.2.2.2.2.2.2.2.2.2.2.2.2.2.1
    have hk : X 13 1 ≤ k := hk
    obtain rfl := z_inj (by omega) (by omega) ea
    omega

set_option maxHeartbeats 2000000 in
set_option maxRecDepth 100000 in
theorem U_played_y (l : Launch) (E : zE) (tm tl : Nat) (D : Nat → Prop) (fs : Nat) (o : oS) (xb : XB o.1) (k w : Nat) (hk : k < o.1 13 1) (hw : w ≤ 2) : oM l yX6_played wsX6_played ({ frames := 2, cells := 0, slots := 0, locals := 43 }) E tm tl D fs [.ref fs, .int (nI k), .int (nI w)] o (fun r o9 => (r = nI (plX o.1 k w)) ∧ o9 = o) := by
  obtain ⟨X, hl, len, Ch⟩ := o
  try dsimp only at *
  refine oM_rd (post := fun r => r = nI (plX X k w)) (fun H hO => ?_)
  obtain ⟨sc, hi, ch, rw, ad, adA, adB, adC, adD, old, pl, fp, YA, YB, YC, YD, st, fr, fo, ti, to, hq, hP, hD⟩ := hO
  refine ⟨_, _, zP_sub hP [0, 1, 14, 15, 16] rfl, c_X6_played l E fs sc hi (nI k) (nI w) ad X xb.2.2.2.2.2.2.2.2.2.2.2.2.2.2.2.2.2.1 xb.2.2.2.2.2.2.2.2.2.2.1, fun r hp => ?_⟩
  rcases hp with ⟨rfl, g6⟩ | ⟨w8, rfl, g1, ev, g2⟩ | ⟨k9, w8, r9, rfl, ea, ev, g1, g2, rfl⟩
  · have hk : k < X 13 1 := hk
    have hsz : X 13 1 ≤ 52 := xb.2.2.2.2.2.2.2.2.2.2.2.2.2.2.2.2.2.1
    rcases g6 with z | z
    · rw [Int32.lt_iff_toInt_lt, nI_toInt (by omega), nI_toInt (by omega)] at z
      omega
    · exact absurd (nB (k := w) rfl (Nat.zero_le _) hw (by omega)) z
  · have hsz : X 13 1 ≤ 52 := xb.2.2.2.2.2.2.2.2.2.2.2.2.2.2.2.2.2.1
    have hk : k < X 13 1 := hk
    rw [Int32.le_iff_toInt_le, nI_toInt (by omega), nI_toInt (by omega)] at g1
    omega
  · have hsz : X 13 1 ≤ 52 := xb.2.2.2.2.2.2.2.2.2.2.2.2.2.2.2.2.2.1
    have hk : k < X 13 1 := hk
    obtain rfl := z_inj (by omega) (by omega) ea
    obtain rfl := z_inj (by omega) (by omega) ev
    rfl

set_option maxHeartbeats 2000000 in
set_option maxRecDepth 100000 in
theorem U_count_i (l : Launch) (E : zE) (tm tl : Nat) (D : Nat → Prop) (fs : Nat) (o : oS) (xb : XB o.1) (a : Int32) (hb : ¬ (nI 0 ≤ a ∧ a ≤ nI 13)) : oM l yX6_count wsX6_count ({ frames := 4, cells := 0, slots := 0, locals := 88 }) E tm tl D fs [.ref fs, .int a] o (fun r o9 => (r = -1) ∧ o9 = o) := by
  obtain ⟨X, hl, len, Ch⟩ := o
  try dsimp only at *
  refine oM_rd (post := fun r => r = -1) (fun H hO => ?_)
  obtain ⟨sc, hi, ch, rw, ad, adA, adB, adC, adD, old, pl, fp, YA, YB, YC, YD, st, fr, fo, ti, to, hq, hP, hD⟩ := hO
  refine ⟨_, _, zP_sub hP [0, 1, 2, 3, 4, 5, 6, 7, 8, 9, 10, 11, 12, 13, 14, 15, 16, 17, 18, 19, 88, 89] rfl, c_X6_count2 l E fs sc hi rw hl.length old ch len pl fp a adA adB adC adD ad X st fr fo ti to Ch xb.1 xb.2.1 xb.2.2.1 xb.2.2.2.2.2.1 xb.2.2.2.2.2.2.2.2.1 xb.2.2.2.2.2.2.2.1 xb.2.2.2.2.2.2.2.2.2.1 xb.2.2.2.2.2.2.2.2.2.2.2.2.2.2.2.2.1, fun r hp => ?_⟩
  rcases hp with ⟨rfl, g6⟩ | ⟨k9, r9, rfl, ea, g1, rfl⟩
  · rfl
  · exact absurd (nB ea (by omega) (by omega) (by omega)) hb

set_option maxHeartbeats 2000000 in
set_option maxRecDepth 100000 in
theorem U_count_y (l : Launch) (E : zE) (tm tl : Nat) (D : Nat → Prop) (fs : Nat) (o : oS) (xb : XB o.1) (k : Nat) (hk : k ≤ 13) : oM l yX6_count wsX6_count ({ frames := 4, cells := 0, slots := 0, locals := 88 }) E tm tl D fs [.ref fs, .int (nI k)] o (fun r o9 => (r = ctX o.1 o.2.1.length o.2.2.1 (bzL (o.1 7) (o.1 4) 4) (sumP (o.1 6) 4) k) ∧ o9 = o) := by
  obtain ⟨X, hl, len, Ch⟩ := o
  try dsimp only at *
  refine oM_rd (post := fun r => r = ctX X hl.length len (bzL (X 7) (X 4) 4) (sumP (X 6) 4) k) (fun H hO => ?_)
  obtain ⟨sc, hi, ch, rw, ad, adA, adB, adC, adD, old, pl, fp, YA, YB, YC, YD, st, fr, fo, ti, to, hq, hP, hD⟩ := hO
  refine ⟨_, _, zP_sub hP [0, 1, 2, 3, 4, 5, 6, 7, 8, 9, 10, 11, 12, 13, 14, 15, 16, 17, 18, 19, 88, 89] rfl, c_X6_count2 l E fs sc hi rw hl.length old ch len pl fp (nI k) adA adB adC adD ad X st fr fo ti to Ch xb.1 xb.2.1 xb.2.2.1 xb.2.2.2.2.2.1 xb.2.2.2.2.2.2.2.2.1 xb.2.2.2.2.2.2.2.1 xb.2.2.2.2.2.2.2.2.2.1 xb.2.2.2.2.2.2.2.2.2.2.2.2.2.2.2.2.1, fun r hp => ?_⟩
  rcases hp with ⟨rfl, g6⟩ | ⟨k9, r9, rfl, ea, g1, rfl⟩
  · exact absurd (nB (k := k) rfl (Nat.zero_le _) hk (by omega)) g6
  · obtain rfl := z_inj (by omega) (by omega) ea
    rfl

set_option maxHeartbeats 2000000 in
set_option maxRecDepth 100000 in
theorem U_type_i (l : Launch) (E : zE) (tm tl : Nat) (D : Nat → Prop) (fs : Nat) (o : oS) (a : Int32) (hb : ¬ (nI 32 ≤ a ∧ a ≤ nI 126)) : oM l yX6_type wsX6_type ({ frames := 1, cells := 0, slots := 0, locals := 22 }) E tm tl D fs [.ref fs, .int a] o (fun r o9 => r = -1 ∧ o9 = o) := by
  obtain ⟨X, hl, len, Ch⟩ := o
  try dsimp only at *
  refine oM_of (fun H hO => ?_)
  obtain ⟨sc, hi, ch, rw, ad, adA, adB, adC, adD, old, pl, fp, YA, YB, YC, YD, st, fr, fo, ti, to, hq, hP, hD⟩ := hO
  have hpm := fun (X9 : Nat → Nat → Nat) (A9 B9 C9 D9 : Nat → Nat → Nat) (hz9 old9 len9 pl9 fp9 : Nat) (st9 fr9 fo9 ti9 to9 : Int32) (Ch9 : Nat → Nat) => pm_t (α := Nat × va_E) [(fs, .inr (6, [.ref (ad 0), .ref hi, .ref sc]))] (oK9 E hi rw ad adA adB adC adD hz9 old9 X9 A9 B9 C9 D9) (oT E sc ch len9 pl9 fp9 st9 fr9 fo9 ti9 to9 Ch9)
  refine ⟨_, _, _, _, hpm X YA YB YC YD hl.length old len pl fp st fr fo ti to Ch, hP, hD, c_X6_type l E fs sc hi ch len pl fp a ad X st fr fo ti to Ch hq.2.2.2.1, fun r w9 hp => ?_⟩
  rcases hp with ⟨rfl, g6, rfl⟩ | ⟨k9, rfl, ⟨ea, g1, g2, g3⟩, rfl⟩ | ⟨k9, rfl, ⟨ea, g1, g2, g3⟩, rfl⟩
  · exact ⟨(X, hl, len, Ch), ⟨rfl, rfl⟩, fun H9 hP hD => ⟨sc, hi, ch, rw, ad, adA, adB, adC, adD, old, pl, fp, YA, YB, YC, YD, st, fr, fo, ti, to, hq, zP_perm (hpm X YA YB YC YD (hl.length) (old) (len) pl fp st fr fo ti to (Ch)).symm hP, zD_perm (hpm X YA YB YC YD (hl.length) (old) (len) pl fp st fr fo ti to (Ch)).symm hD⟩⟩
  · exact absurd (nB ea (by omega) (by omega) (by omega)) hb
  · exact absurd (nB ea (by omega) (by omega) (by omega)) hb

set_option maxHeartbeats 2000000 in
set_option maxRecDepth 100000 in
theorem U_type_l (l : Launch) (E : zE) (tm tl : Nat) (D : Nat → Prop) (fs : Nat) (o : oS) (k : Nat) (hk1 : 32 ≤ k) (hk2 : k ≤ 126) (hl8 : o.2.2.1 = 80) : oM l yX6_type wsX6_type ({ frames := 1, cells := 0, slots := 0, locals := 22 }) E tm tl D fs [.ref fs, .int (nI k)] o (fun r o9 => r = -3 ∧ o9 = o) := by
  obtain ⟨X, hl, len, Ch⟩ := o
  try dsimp only at *
  refine oM_of (fun H hO => ?_)
  obtain ⟨sc, hi, ch, rw, ad, adA, adB, adC, adD, old, pl, fp, YA, YB, YC, YD, st, fr, fo, ti, to, hq, hP, hD⟩ := hO
  have hpm := fun (X9 : Nat → Nat → Nat) (A9 B9 C9 D9 : Nat → Nat → Nat) (hz9 old9 len9 pl9 fp9 : Nat) (st9 fr9 fo9 ti9 to9 : Int32) (Ch9 : Nat → Nat) => pm_t (α := Nat × va_E) [(fs, .inr (6, [.ref (ad 0), .ref hi, .ref sc]))] (oK9 E hi rw ad adA adB adC adD hz9 old9 X9 A9 B9 C9 D9) (oT E sc ch len9 pl9 fp9 st9 fr9 fo9 ti9 to9 Ch9)
  refine ⟨_, _, _, _, hpm X YA YB YC YD hl.length old len pl fp st fr fo ti to Ch, hP, hD, c_X6_type l E fs sc hi ch len pl fp (nI k) ad X st fr fo ti to Ch hq.2.2.2.1, fun r w9 hp => ?_⟩
  rcases hp with ⟨rfl, g6, rfl⟩ | ⟨k9, rfl, ⟨ea, g1, g2, g3⟩, rfl⟩ | ⟨k9, rfl, ⟨ea, g1, g2, g3⟩, rfl⟩
  · exact absurd (nB (k := k) rfl hk1 hk2 (by omega)) g6
  · exact ⟨(X, hl, len, Ch), ⟨rfl, rfl⟩, fun H9 hP hD => ⟨sc, hi, ch, rw, ad, adA, adB, adC, adD, old, pl, fp, YA, YB, YC, YD, st, fr, fo, ti, to, hq, zP_perm (hpm X YA YB YC YD (hl.length) (old) (len) pl fp st fr fo ti to (Ch)).symm hP, zD_perm (hpm X YA YB YC YD (hl.length) (old) (len) pl fp st fr fo ti to (Ch)).symm hD⟩⟩
  · have hl8 : len = 80 := hl8
    omega

set_option maxHeartbeats 2000000 in
set_option maxRecDepth 100000 in
theorem U_type_y (l : Launch) (E : zE) (tm tl : Nat) (D : Nat → Prop) (fs : Nat) (o : oS) (k : Nat) (hk1 : 32 ≤ k) (hk2 : k ≤ 126) (hl8 : o.2.2.1 < 80) : oM l yX6_type wsX6_type ({ frames := 1, cells := 0, slots := 0, locals := 22 }) E tm tl D fs [.ref fs, .int (nI k)] o (fun r o9 => r = nI (o.2.2.1 + 1) ∧ o9 = (o.1, o.2.1, o.2.2.1 + 1, va_up o.2.2.2 o.2.2.1 k)) := by
  obtain ⟨X, hl, len, Ch⟩ := o
  try dsimp only at *
  refine oM_of (fun H hO => ?_)
  obtain ⟨sc, hi, ch, rw, ad, adA, adB, adC, adD, old, pl, fp, YA, YB, YC, YD, st, fr, fo, ti, to, hq, hP, hD⟩ := hO
  have hpm := fun (X9 : Nat → Nat → Nat) (A9 B9 C9 D9 : Nat → Nat → Nat) (hz9 old9 len9 pl9 fp9 : Nat) (st9 fr9 fo9 ti9 to9 : Int32) (Ch9 : Nat → Nat) => pm_t (α := Nat × va_E) [(fs, .inr (6, [.ref (ad 0), .ref hi, .ref sc]))] (oK9 E hi rw ad adA adB adC adD hz9 old9 X9 A9 B9 C9 D9) (oT E sc ch len9 pl9 fp9 st9 fr9 fo9 ti9 to9 Ch9)
  refine ⟨_, _, _, _, hpm X YA YB YC YD hl.length old len pl fp st fr fo ti to Ch, hP, hD, c_X6_type l E fs sc hi ch len pl fp (nI k) ad X st fr fo ti to Ch hq.2.2.2.1, fun r w9 hp => ?_⟩
  rcases hp with ⟨rfl, g6, rfl⟩ | ⟨k9, rfl, ⟨ea, g1, g2, g3⟩, rfl⟩ | ⟨k9, rfl, ⟨ea, g1, g2, g3⟩, rfl⟩
  · exact absurd (nB (k := k) rfl hk1 hk2 (by omega)) g6
  · have hl8 : len < 80 := hl8
    omega
  · obtain rfl := z_inj (by omega) (by omega) ea
    exact ⟨(X, hl, len + 1, va_up Ch len k), ⟨rfl, rfl⟩, fun H9 hP hD => ⟨sc, hi, ch, rw, ad, adA, adB, adC, adD, old, pl, fp, YA, YB, YC, YD, st, fr, fo, ti, to, ⟨hq.1, hq.2.1, hq.2.2.1, g3, fun i hi9 => by show va_up Ch len k i ≤ 126; simp only [va_up]; split; omega; exact hq.2.2.2.2 i hi9⟩, zP_perm (hpm X YA YB YC YD (hl.length) (old) (len + 1) pl fp st fr fo ti to (va_up Ch len k)).symm hP, zD_perm (hpm X YA YB YC YD (hl.length) (old) (len + 1) pl fp st fr fo ti to (va_up Ch len k)).symm hD⟩⟩

set_option maxHeartbeats 2000000 in
set_option maxRecDepth 100000 in
theorem U_clearText (l : Launch) (E : zE) (tm tl : Nat) (D : Nat → Prop) (fs : Nat) (o : oS) : oM l yX6_clearText wsX6_clearText ({ frames := 0, cells := 0, slots := 0, locals := 0 }) E tm tl D fs [.ref fs] o (fun r o9 => r = nI o.2.2.1 ∧ o9 = (o.1, o.2.1, 0, o.2.2.2)) := by
  obtain ⟨X, hl, len, Ch⟩ := o
  try dsimp only at *
  refine oM_of (fun H hO => ?_)
  obtain ⟨sc, hi, ch, rw, ad, adA, adB, adC, adD, old, pl, fp, YA, YB, YC, YD, st, fr, fo, ti, to, hq, hP, hD⟩ := hO
  have hpm := fun (X9 : Nat → Nat → Nat) (A9 B9 C9 D9 : Nat → Nat → Nat) (hz9 old9 len9 pl9 fp9 : Nat) (st9 fr9 fo9 ti9 to9 : Int32) (Ch9 : Nat → Nat) => pm_t (α := Nat × va_E) [(fs, .inr (6, [.ref (ad 0), .ref hi, .ref sc]))] (oK9 E hi rw ad adA adB adC adD hz9 old9 X9 A9 B9 C9 D9) (oT E sc ch len9 pl9 fp9 st9 fr9 fo9 ti9 to9 Ch9)
  refine ⟨_, _, _, _, hpm X YA YB YC YD hl.length old len pl fp st fr fo ti to Ch, hP, hD, c_X6_clearText l E fs sc hi ch len pl fp ad X st fr fo ti to Ch , fun r w9 hp => ?_⟩
  rcases hp with ⟨rfl, rfl⟩
  · exact ⟨(X, hl, 0, Ch), ⟨rfl, rfl⟩, fun H9 hP hD => ⟨sc, hi, ch, rw, ad, adA, adB, adC, adD, old, pl, fp, YA, YB, YC, YD, st, fr, fo, ti, to, ⟨hq.1, hq.2.1, hq.2.2.1, Nat.zero_le _, hq.2.2.2.2⟩, zP_perm (hpm X YA YB YC YD (hl.length) (old) (0) pl fp st fr fo ti to (Ch)).symm hP, zD_perm (hpm X YA YB YC YD (hl.length) (old) (0) pl fp st fr fo ti to (Ch)).symm hD⟩⟩

/-- what fault answers -/
def ftA (X : Nat → Nat → Nat) (len : Nat) (Ch : Nat → Nat) (k : Nat) : Int32 := if (ffN Ch len (X 13 0) 80 0 (X 13 2)).1 = 0 then -4 else if k = 0 then nI (ffN Ch len (X 13 0) 80 0 (X 13 2)).2 else nI (ffN Ch len (X 13 0) 80 0 (X 13 2)).1

set_option maxHeartbeats 2000000 in
set_option maxRecDepth 100000 in
theorem U_fault_i (l : Launch) (E : zE) (tm tl : Nat) (D : Nat → Prop) (fs : Nat) (o : oS) (xb : XB o.1) (a : Int32) (hb : ¬ (nI 0 ≤ a ∧ a ≤ nI 1)) : oM l yX6_fault wsX6_fault ({ frames := 5, cells := 0, slots := 0, locals := 114 }) E tm tl D fs [.ref fs, .int a] o (fun r o9 => r = -1 ∧ o9 = o) := by
  obtain ⟨X, hl, len, Ch⟩ := o
  try dsimp only at *
  refine oM_of (fun H hO => ?_)
  obtain ⟨sc, hi, ch, rw, ad, adA, adB, adC, adD, old, pl, fp, YA, YB, YC, YD, st, fr, fo, ti, to, hq, hP, hD⟩ := hO
  have hpm := fun (X9 : Nat → Nat → Nat) (A9 B9 C9 D9 : Nat → Nat → Nat) (hz9 old9 len9 pl9 fp9 : Nat) (st9 fr9 fo9 ti9 to9 : Int32) (Ch9 : Nat → Nat) => pm_t (α := Nat × va_E) [(fs, .inr (6, [.ref (ad 0), .ref hi, .ref sc])), ((ad 0), .inr (4, [.ref (ad 1), .ref (ad 5), .ref (ad 13), .ref (ad 16), .int (nI (X9 13 2)), .int (nI (X9 13 3))])), ((ad 1), .inr (1, [.int (nI (X9 13 0)), .ref (ad 2), .ref (ad 3), .ref (ad 4)]))] (oK8 E hi rw ad adA adB adC adD hz9 old9 X9 A9 B9 C9 D9) (oT E sc ch len9 pl9 fp9 st9 fr9 fo9 ti9 to9 Ch9)
  refine ⟨_, _, _, _, hpm X YA YB YC YD hl.length old len pl fp st fr fo ti to Ch, hP, hD, c_X6_fault l E fs sc hi ch len pl fp a ad X st fr fo ti to Ch hq.2.2.2.2 hq.2.2.2.1 xb.1 xb.2.2.2.2.2.2.2.2.2.2.2.2.2.2.2.2.2.2, fun r w9 hp => ?_⟩
  rcases hp with ⟨rfl, g6, rfl⟩ | ⟨st9, fr9, fo9, ti9, pl9, to9, rfl, ⟨ea, g1⟩, rfl⟩ | ⟨st9, fr9, fo9, ti9, pl9, to9, fp9, k9, r9, rfl, ⟨ea, g1, g2, rfl⟩, rfl⟩
  · exact ⟨(X, hl, len, Ch), ⟨rfl, rfl⟩, fun H9 hP hD => ⟨sc, hi, ch, rw, ad, adA, adB, adC, adD, old, pl, fp, YA, YB, YC, YD, st, fr, fo, ti, to, hq, zP_perm (hpm X YA YB YC YD (hl.length) (old) (len) pl fp st fr fo ti to (Ch)).symm hP, zD_perm (hpm X YA YB YC YD (hl.length) (old) (len) pl fp st fr fo ti to (Ch)).symm hD⟩⟩
  · exact absurd ea hb
  · exact absurd (nB ea (by omega) (by omega) (by omega)) hb

set_option maxHeartbeats 2000000 in
set_option maxRecDepth 100000 in
theorem U_fault_y (l : Launch) (E : zE) (tm tl : Nat) (D : Nat → Prop) (fs : Nat) (o : oS) (xb : XB o.1) (k : Nat) (hk : k ≤ 1) : oM l yX6_fault wsX6_fault ({ frames := 5, cells := 0, slots := 0, locals := 114 }) E tm tl D fs [.ref fs, .int (nI k)] o (fun r o9 => r = ftA o.1 o.2.2.1 o.2.2.2 k ∧ o9 = o) := by
  obtain ⟨X, hl, len, Ch⟩ := o
  try dsimp only at *
  refine oM_of (fun H hO => ?_)
  obtain ⟨sc, hi, ch, rw, ad, adA, adB, adC, adD, old, pl, fp, YA, YB, YC, YD, st, fr, fo, ti, to, hq, hP, hD⟩ := hO
  have hpm := fun (X9 : Nat → Nat → Nat) (A9 B9 C9 D9 : Nat → Nat → Nat) (hz9 old9 len9 pl9 fp9 : Nat) (st9 fr9 fo9 ti9 to9 : Int32) (Ch9 : Nat → Nat) => pm_t (α := Nat × va_E) [(fs, .inr (6, [.ref (ad 0), .ref hi, .ref sc])), ((ad 0), .inr (4, [.ref (ad 1), .ref (ad 5), .ref (ad 13), .ref (ad 16), .int (nI (X9 13 2)), .int (nI (X9 13 3))])), ((ad 1), .inr (1, [.int (nI (X9 13 0)), .ref (ad 2), .ref (ad 3), .ref (ad 4)]))] (oK8 E hi rw ad adA adB adC adD hz9 old9 X9 A9 B9 C9 D9) (oT E sc ch len9 pl9 fp9 st9 fr9 fo9 ti9 to9 Ch9)
  refine ⟨_, _, _, _, hpm X YA YB YC YD hl.length old len pl fp st fr fo ti to Ch, hP, hD, c_X6_fault l E fs sc hi ch len pl fp (nI k) ad X st fr fo ti to Ch hq.2.2.2.2 hq.2.2.2.1 xb.1 xb.2.2.2.2.2.2.2.2.2.2.2.2.2.2.2.2.2.2, fun r w9 hp => ?_⟩
  rcases hp with ⟨rfl, g6, rfl⟩ | ⟨st9, fr9, fo9, ti9, pl9, to9, rfl, ⟨ea, g1⟩, rfl⟩ | ⟨st9, fr9, fo9, ti9, pl9, to9, fp9, k9, r9, rfl, ⟨ea, g1, g2, rfl⟩, rfl⟩
  · exact absurd (nB (k := k) rfl (Nat.zero_le _) hk (by omega)) g6
  · exact ⟨(X, hl, len, Ch), ⟨(if_pos g1).symm, rfl⟩, fun H9 hP hD => ⟨sc, hi, ch, rw, ad, adA, adB, adC, adD, old, pl9, fp, YA, YB, YC, YD, st9, fr9, fo9, ti9, to9, hq, zP_perm (hpm X YA YB YC YD (hl.length) (old) (len) pl9 fp st9 fr9 fo9 ti9 to9 (Ch)).symm hP, zD_perm (hpm X YA YB YC YD (hl.length) (old) (len) pl9 fp st9 fr9 fo9 ti9 to9 (Ch)).symm hD⟩⟩
  · obtain rfl := z_inj (by omega) (by omega) ea
    exact ⟨(X, hl, len, Ch), ⟨(if_neg g2).symm, rfl⟩, fun H9 hP hD => ⟨sc, hi, ch, rw, ad, adA, adB, adC, adD, old, pl9, fp9, YA, YB, YC, YD, st9, fr9, fo9, ti9, to9, hq, zP_perm (hpm X YA YB YC YD (hl.length) (old) (len) pl9 fp9 st9 fr9 fo9 ti9 to9 (Ch)).symm hP, zD_perm (hpm X YA YB YC YD (hl.length) (old) (len) pl9 fp9 st9 fr9 fo9 ti9 to9 (Ch)).symm hD⟩⟩

set_option maxHeartbeats 2000000 in
set_option maxRecDepth 100000 in
theorem U_play_p (l : Launch) (E : zE) (tm tl : Nat) (D : Nat → Prop) (fs : Nat) (o : oS) (xb : XB o.1) (hf : (ffN o.2.2.2 o.2.2.1 (o.1 13 0) 80 0 (o.1 13 2)).1 ≠ 0) : oM l yX6_play wsX6_play ({ frames := 7, cells := 0, slots := 0, locals := 161 }) E tm tl D fs [.ref fs] o (fun r o9 => r = -2 ∧ o9 = o) := by
  obtain ⟨X, hl, len, Ch⟩ := o
  try dsimp only at *
  refine oM_of (fun H hO => ?_)
  obtain ⟨sc, hi, ch, rw, ad, adA, adB, adC, adD, old, pl, fp, YA, YB, YC, YD, st, fr, fo, ti, to, hq, hP, hD⟩ := hO
  have hpm := fun (X9 : Nat → Nat → Nat) (A9 B9 C9 D9 : Nat → Nat → Nat) (hz9 old9 len9 pl9 fp9 : Nat) (st9 fr9 fo9 ti9 to9 : Int32) (Ch9 : Nat → Nat) => pm_p (α := Nat × va_E) [(fs, .inr (6, [.ref (ad 0), .ref hi, .ref sc]))] (oK9 E hi rw ad adA adB adC adD hz9 old9 X9 A9 B9 C9 D9) (oT E sc ch len9 pl9 fp9 st9 fr9 fo9 ti9 to9 Ch9)
  refine ⟨_, _, _, _, hpm X YA YB YC YD hl.length old len pl fp st fr fo ti to Ch, hP, hD, c_X6_play l E fs sc hi rw hl.length old ch len pl fp adA adB adC adD ad YA YB YC YD X st fr fo ti to Ch hq.1 hq.2.1 hq.2.2.2.2 hq.2.2.2.1 xb.1 xb.2.2.2.2.2.2.2.2.2.2.2.2.2.2.2.2.2.2 (fun h9 => absurd h9 hf), fun r w9 hp => ?_⟩
  rcases hp with ⟨st9, fr9, fo9, ti9, pl9, to9, fp9, rfl, g1, rfl⟩ | ⟨st9, fr9, fo9, ti9, pl9, to9, A9, B9, C9, D9, rfl, ⟨g1, kp⟩, rfl⟩
  · exact ⟨(X, hl, len, Ch), ⟨rfl, rfl⟩, fun H9 hP hD => ⟨sc, hi, ch, rw, ad, adA, adB, adC, adD, old, pl9, fp9, YA, YB, YC, YD, st9, fr9, fo9, ti9, to9, hq, zP_perm (hpm X YA YB YC YD (hl.length) (old) (len) pl9 fp9 st9 fr9 fo9 ti9 to9 (Ch)).symm hP, zD_perm (hpm X YA YB YC YD (hl.length) (old) (len) pl9 fp9 st9 fr9 fo9 ti9 to9 (Ch)).symm hD⟩⟩
  · exact absurd g1 hf

set_option maxHeartbeats 2000000 in
set_option maxRecDepth 100000 in
theorem U_play_y (l : Launch) (E : zE) (tm tl : Nat) (D : Nat → Prop) (fs : Nat) (o : oS) (xb : XB o.1) (hf : (ffN o.2.2.2 o.2.2.1 (o.1 13 0) 80 0 (o.1 13 2)).1 = 0) (hg : gdX o.2.2.2 o.2.2.1 80 o.1 0) : oM l yX6_play wsX6_play ({ frames := 7, cells := 0, slots := 0, locals := 161 }) E tm tl D fs [.ref fs] o (fun r o9 => r = nI (plS o.2.2.2 o.2.2.1 80 o.1 0).2 ∧ o9 = okp o (plS o.2.2.2 o.2.2.1 80 o.1 0).1) := by
  obtain ⟨X, hl, len, Ch⟩ := o
  try dsimp only at *
  refine oM_of (fun H hO => ?_)
  obtain ⟨sc, hi, ch, rw, ad, adA, adB, adC, adD, old, pl, fp, YA, YB, YC, YD, st, fr, fo, ti, to, hq, hP, hD⟩ := hO
  have hpm := fun (X9 : Nat → Nat → Nat) (A9 B9 C9 D9 : Nat → Nat → Nat) (hz9 old9 len9 pl9 fp9 : Nat) (st9 fr9 fo9 ti9 to9 : Int32) (Ch9 : Nat → Nat) => pm_p (α := Nat × va_E) [(fs, .inr (6, [.ref (ad 0), .ref hi, .ref sc]))] (oK9 E hi rw ad adA adB adC adD hz9 old9 X9 A9 B9 C9 D9) (oT E sc ch len9 pl9 fp9 st9 fr9 fo9 ti9 to9 Ch9)
  refine ⟨_, _, _, _, hpm X YA YB YC YD hl.length old len pl fp st fr fo ti to Ch, hP, hD, c_X6_play l E fs sc hi rw hl.length old ch len pl fp adA adB adC adD ad YA YB YC YD X st fr fo ti to Ch hq.1 hq.2.1 hq.2.2.2.2 hq.2.2.2.1 xb.1 xb.2.2.2.2.2.2.2.2.2.2.2.2.2.2.2.2.2.2 (fun _ => hg), fun r w9 hp => ?_⟩
  rcases hp with ⟨st9, fr9, fo9, ti9, pl9, to9, fp9, rfl, g1, rfl⟩ | ⟨st9, fr9, fo9, ti9, pl9, to9, A9, B9, C9, D9, rfl, ⟨g1, kp⟩, rfl⟩
  · exact absurd hf g1
  · exact ⟨okp (X, hl, len, Ch) (plS Ch len 80 X 0).1, ⟨rfl, rfl⟩, fun H9 hP hD => HO_kp (Z := (plS Ch len 80 X 0).1) hq kp (zP_perm (hpm ((plS Ch len 80 X 0).1) A9 B9 C9 D9 (kpS hl.length) (kpO old hl.length) (len) pl9 fp st9 fr9 fo9 ti9 to9 (Ch)).symm hP) (zD_perm (hpm ((plS Ch len 80 X 0).1) A9 B9 C9 D9 (kpS hl.length) (kpO old hl.length) (len) pl9 fp st9 fr9 fo9 ti9 to9 (Ch)).symm hD)⟩
