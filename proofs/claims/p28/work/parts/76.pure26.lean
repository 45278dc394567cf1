/-! ===== a text played by the component ===== -/
def prX (X : Nat → Nat → Nat) (s f : Nat) : Nat → Nat → Nat := mkX (X 0) (X 1) (X 2) (X 3) (va_up (X 4) s f) (X 5) (X 6) (soL (X 0) (X 1) (X 13 0) (va_up (X 4) s f) (X 7) 4) (stL (X 0) (X 1) (X 13 0) (va_up (X 4) s f) (X 8) 4) (amL (X 0) (X 1) (X 13 0) (va_up (X 4) s f) (X 8) (X 9) 4) (X 10) (X 11) (X 12) (X 13 0) (X 13 1) (X 13 2) (X 13 3)
def pkX (X : Nat → Nat → Nat) (s y q : Nat) : Nat → Nat → Nat := mkX (X 0) (pkH (X 1) (X 2) (X 7 s) (X 4 s) q (X 12 3)) (pkW (X 1) (X 2) (X 7 s) (X 4 s) q (X 12 3)) (X 3) (X 4) (X 5) (va_up (X 6) s (X 6 s + 1)) (soL (X 0) (pkH (X 1) (X 2) (X 7 s) (X 4 s) q (X 12 3)) (X 13 0) (X 4) (X 7) 4) (stL (X 0) (pkH (X 1) (X 2) (X 7 s) (X 4 s) q (X 12 3)) (X 13 0) (X 4) (X 8) 4) (amL (X 0) (pkH (X 1) (X 2) (X 7 s) (X 4 s) q (X 12 3)) (X 13 0) (X 4) (X 8) (wakeL (X 9) s (y - X 8 s) (2520 - X 8 s) q 12) 4) (nOr (X 10) (X 11) (X 13 1) (s * 13 + X 4 s)) (va_up (X 11) (s * 13 + X 4 s) (X 11 (s * 13 + X 4 s) + 1)) (X 12) (X 13 0) (nsz (X 11) (X 13 1) (s * 13 + X 4 s)) (X 13 2) (pkL (X 1) (X 2) (X 7 s) (X 4 s) q (X 12 3) (X 13 3))
def lgX (X : Nat → Nat → Nat) (k : Nat) : Nat → Nat → Nat := mkX (X 0) (X 1) (X 2) (X 3) (X 4) (X 5) (X 6) (X 7) (X 8) (lgL (X 5) (X 8) (X 12) (X 9) k 48) (X 10) (X 11) (X 12) (X 13 0) (X 13 1) (X 13 2 + k) (X 13 3)
def pyX (Ch : Nat → Nat) (len : Nat) (X : Nat → Nat → Nat) (p : Nat) : Nat → Nat → Nat := lgX (pkX (prX X (a0 Ch len p) (fV Ch len p)) (a0 Ch len p) 2460 (qV Ch len p)) (tV Ch len p)
def plS (Ch : Nat → Nat) (len : Nat) : Nat → (Nat → Nat → Nat) → Nat → (Nat → Nat → Nat) × Nat
  | 0, X, _ => (X, 0)
  | k + 1, X, p => if okN Ch len p then ((plS Ch len k (pyX Ch len X p) (e3 Ch len p + 1)).1, (plS Ch len k (pyX Ch len X p) (e3 Ch len p + 1)).2 + 1) else (X, 0)
/-- what is always small -/
def XB (X : Nat → Nat → Nat) : Prop := X 13 0 ≤ 12 ∧ (∀ i, i < 12 → X 0 i ≤ 2400) ∧ (∀ i, i < 12 → X 1 i ≤ 2000) ∧ (∀ i, i < 12 → X 2 i ≤ 900000000) ∧ (∀ i, i < 4 → X 3 i ≤ 100000000) ∧ (∀ i, i < 4 → X 4 i ≤ X 13 0) ∧ (∀ i, i < 4 → X 5 i ≤ 2519) ∧ (∀ i, i < 4 → X 7 i ≤ X 13 0) ∧ (∀ i, i < 4 → X 8 i ≤ 2400) ∧ (∀ i, i < 48 → X 9 i ≤ 1000000) ∧ (∀ i, i < 52 → X 10 i < 52) ∧ (∀ i, i < 52 → X 11 i ≤ 1000000000) ∧ X 12 0 ≤ 1000 ∧ X 12 1 ≤ 100 ∧ X 12 2 ≤ 1000 ∧ (1 ≤ X 12 3 ∧ X 12 3 ≤ 1000000) ∧ X 12 4 ≤ 100000 ∧ X 13 1 ≤ 52 ∧ X 13 2 ≤ 100000
def gdX (Ch : Nat → Nat) (len : Nat) : Nat → (Nat → Nat → Nat) → Nat → Prop
  | 0, X, _ => XB X
  | k + 1, X, p => XB X ∧ (okN Ch len p → XB (prX X (a0 Ch len p) (fV Ch len p)) ∧ XB (pkX (prX X (a0 Ch len p) (fV Ch len p)) (a0 Ch len p) 2460 (qV Ch len p)) ∧ gdX Ch len k (pyX Ch len X p) (e3 Ch len p + 1))
theorem gd_s {Ch : Nat → Nat} {len p j : Nat} {X : Nat → Nat → Nat} (h : gdX Ch len (80 - j) X p) (hj : j < 80) (ho : okN Ch len p) : XB X ∧ XB (prX X (a0 Ch len p) (fV Ch len p)) ∧ XB (pkX (prX X (a0 Ch len p) (fV Ch len p)) (a0 Ch len p) 2460 (qV Ch len p)) ∧ gdX Ch len (80 - (j + 1)) (pyX Ch len X p) (e3 Ch len p + 1) := by
  obtain ⟨m, hm⟩ : ∃ m, 80 - j = m + 1 := ⟨80 - j - 1, by omega⟩
  rw [hm] at h
  rw [show 80 - (j + 1) = m by omega]
  exact ⟨h.1, h.2 ho⟩
theorem pS_s {Ch : Nat → Nat} {len p j : Nat} {X Y : Nat → Nat → Nat} (h : plS Ch len 80 X 0 = ((plS Ch len (80 - j) Y p).1, (plS Ch len (80 - j) Y p).2 + j)) (hj : j < 80) (ho : okN Ch len p) : plS Ch len 80 X 0 = ((plS Ch len (80 - (j + 1)) (pyX Ch len Y p) (e3 Ch len p + 1)).1, (plS Ch len (80 - (j + 1)) (pyX Ch len Y p) (e3 Ch len p + 1)).2 + (j + 1)) := by
  obtain ⟨m, hm⟩ : ∃ m, 80 - j = m + 1 := ⟨80 - j - 1, by omega⟩
  rw [h, hm, show 80 - (j + 1) = m by omega]
  conv => lhs; simp only [plS]
  rw [if_pos ho]
  refine Prod.ext rfl ?_
  show _ + 1 + j = _ + (j + 1)
  omega
theorem pS_z {Ch : Nat → Nat} {len p j : Nat} {X Y : Nat → Nat → Nat} (h : plS Ch len 80 X 0 = ((plS Ch len (80 - j) Y p).1, (plS Ch len (80 - j) Y p).2 + j)) (hp : 80 ≤ j ∨ ¬ okN Ch len p) : plS Ch len 80 X 0 = (Y, j) := by
  rw [h]
  have e : plS Ch len (80 - j) Y p = (Y, 0) := by
    rcases Nat.eq_zero_or_pos (80 - j) with q | q
    · rw [q]; rfl
    · obtain ⟨m, hm⟩ : ∃ m, 80 - j = m + 1 := ⟨80 - j - 1, by omega⟩
      rw [hm]
      simp only [plS]
      rw [if_neg (hp.resolve_left (by omega))]
  rw [e]
  exact Prod.ext rfl (Nat.zero_add j)
