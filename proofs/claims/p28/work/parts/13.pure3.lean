/-! ===== the text, as numbers ===== -/
def sgn (Ch : Nat → Nat) (len i : Nat) : Nat := if i < len then Ch i else 0
theorem sgn_le {Ch : Nat → Nat} {len i : Nat} (h : ∀ i, i < 80 → Ch i ≤ 126) (hl : len ≤ 80) : sgn Ch len i ≤ 126 := by
  unfold sgn
  split
  · exact h _ (by omega)
  · omega
/-- how many digits stand from p on, k at most -/
def nD (Ch : Nat → Nat) (len : Nat) : Nat → Nat → Nat
  | _, 0 => 0
  | p, k + 1 => if 48 ≤ sgn Ch len p ∧ sgn Ch len p ≤ 57 then nD Ch len (p + 1) k + 1 else 0
/-- the number that d digits from p on say -/
def rdV (Ch : Nat → Nat) (p : Nat) : Nat → Nat
  | 0 => 0
  | d + 1 => rdV Ch p d * 10 + (Ch (p + d) - 48)
theorem nD_le (Ch : Nat → Nat) (len : Nat) : ∀ k p, nD Ch len p k ≤ k
  | 0, _ => by simp [nD]
  | k + 1, p => by
    have := nD_le Ch len k (p + 1)
    simp only [nD]
    split <;> omega
theorem nD_in (Ch : Nat → Nat) (len : Nat) : ∀ k p, nD Ch len p k = 0 ∨ p + nD Ch len p k ≤ len
  | 0, _ => Or.inl rfl
  | k + 1, p => by
    have := nD_in Ch len k (p + 1)
    simp only [nD]
    split
    · rename_i h
      have hp : p < len := by
        rcases Nat.lt_or_ge p len with q | q
        · exact q
        · have : sgn Ch len p = 0 := by unfold sgn; rw [if_neg (by omega)]
          omega
      right
      omega
    · exact Or.inl rfl
def rdR (Ch : Nat → Nat) (len p k : Nat) : Int32 := if nD Ch len p k = 0 then -1 else nI (rdV Ch p (nD Ch len p k))
theorem rdV_le {Ch : Nat → Nat} (h : ∀ i, i < 80 → Ch i ≤ 126) (p : Nat) : ∀ d, p + d ≤ 80 → rdV Ch p d + 78 ≤ 10 ^ d * 78
  | 0, _ => by simp [rdV]
  | d + 1, hd => by
    have h1 := rdV_le h p d (by omega)
    have h2 := h (p + d) (by omega)
    have h3 : 1 ≤ 10 ^ d := Nat.pow_pos (by omega)
    simp only [rdV, Nat.pow_succ]
    omega
-- a note
def a0 (Ch : Nat → Nat) (len p : Nat) : Nat := rdV Ch p (nD Ch len p 1)
def e0 (Ch : Nat → Nat) (len p : Nat) : Nat := p + nD Ch len p 1
def fV (Ch : Nat → Nat) (len p : Nat) : Nat := rdV Ch (e0 Ch len p + 1) (nD Ch len (e0 Ch len p + 1) 2)
def e1 (Ch : Nat → Nat) (len p : Nat) : Nat := e0 Ch len p + 1 + nD Ch len (e0 Ch len p + 1) 2
def qV (Ch : Nat → Nat) (len p : Nat) : Nat := rdV Ch (e1 Ch len p + 1) (nD Ch len (e1 Ch len p + 1) 4)
def e2 (Ch : Nat → Nat) (len p : Nat) : Nat := e1 Ch len p + 1 + nD Ch len (e1 Ch len p + 1) 4
def tV (Ch : Nat → Nat) (len p : Nat) : Nat := if sgn Ch len (e2 Ch len p) = 43 then rdV Ch (e2 Ch len p + 1) (nD Ch len (e2 Ch len p + 1) 3) else 0
def e3 (Ch : Nat → Nat) (len p : Nat) : Nat := if sgn Ch len (e2 Ch len p) = 43 then e2 Ch len p + 1 + nD Ch len (e2 Ch len p + 1) 3 else e2 Ch len p
abbrev okN (Ch : Nat → Nat) (len p : Nat) : Prop := nD Ch len p 1 ≠ 0 ∧ a0 Ch len p ≤ 3 ∧ sgn Ch len (e0 Ch len p) = 58 ∧ nD Ch len (e0 Ch len p + 1) 2 ≠ 0 ∧ sgn Ch len (e1 Ch len p) = 33 ∧ nD Ch len (e1 Ch len p + 1) 4 ≠ 0 ∧ (sgn Ch len (e2 Ch len p) = 43 → nD Ch len (e2 Ch len p + 1) 3 ≠ 0) ∧ sgn Ch len (e3 Ch len p) = 59
def rsN (Ch : Nat → Nat) (len p n tb : Nat) : Nat := if ¬ okN Ch len p then 1 else if n < fV Ch len p then 2 else if ¬ (1 ≤ qV Ch len p ∧ qV Ch len p ≤ 1000) ∨ (sgn Ch len (e2 Ch len p) = 43 ∧ ¬ (1 ≤ tV Ch len p ∧ tV Ch len p ≤ 500)) then 3 else if 100000 < tb + tV Ch len p then 4 else 0
/-- the fault of the text from p on: its reason and its place; notes are k at most -/
def ffN (Ch : Nat → Nat) (len n : Nat) : Nat → Nat → Nat → Nat × Nat
  | 0, p, _ => (0, p)
  | k + 1, p, tb => if p < len then (if rsN Ch len p n tb = 0 then ffN Ch len n k (e3 Ch len p + 1) (tb + tV Ch len p) else (rsN Ch len p n tb, p)) else (0, p)
theorem sgn_dig {Ch : Nat → Nat} {len i : Nat} (h : 48 ≤ sgn Ch len i) : sgn Ch len i = Ch i ∧ i < len := by
  unfold sgn at *
  split at h
  · rename_i q; rw [if_pos q]; exact ⟨rfl, q⟩
  · omega
theorem nD_go {Ch : Nat → Nat} {len p k d : Nat} (h : nD Ch len p k = d + nD Ch len (p + d) (k - d)) (hd : d < k) (h1 : 48 ≤ sgn Ch len (p + d)) (h2 : sgn Ch len (p + d) ≤ 57) : nD Ch len p k = d + 1 + nD Ch len (p + (d + 1)) (k - (d + 1)) := by
  rw [h]
  obtain ⟨m, hm⟩ : ∃ m, k - d = m + 1 := ⟨k - d - 1, by omega⟩
  rw [hm, show k - (d + 1) = m by omega]
  simp only [nD]
  rw [if_pos ⟨h1, h2⟩, show p + d + 1 = p + (d + 1) by omega]
  omega
theorem nD_st {Ch : Nat → Nat} {len p k d : Nat} (h : nD Ch len p k = d + nD Ch len (p + d) (k - d)) (hd : d ≤ k) (h1 : k ≤ d ∨ sgn Ch len (p + d) < 48 ∨ 57 < sgn Ch len (p + d)) : nD Ch len p k = d := by
  rw [h]
  rcases h1 with q | q
  · rw [show k - d = 0 by omega]; simp [nD]
  · rcases Nat.eq_zero_or_pos (k - d) with z | z
    · rw [z]; simp [nD]
    · obtain ⟨m, hm⟩ : ∃ m, k - d = m + 1 := ⟨k - d - 1, by omega⟩
      rw [hm]
      simp only [nD]
      rw [if_neg (by omega), Nat.add_zero]
theorem rdV_b {Ch : Nat → Nat} {len p k : Nat} (h : ∀ i, i < 80 → Ch i ≤ 126) (hl : len ≤ 80) (hk : k ≤ 4) : rdV Ch p (nD Ch len p k) ≤ 780000 := by
  have h1 := nD_le Ch len k p
  rcases nD_in Ch len k p with q | q
  · rw [q]; simp [rdV]
  · have h2 := rdV_le h p (nD Ch len p k) (by omega)
    have h3 : 10 ^ nD Ch len p k ≤ 10 ^ 4 := Nat.pow_le_pow_right (by omega) (by omega)
    omega
theorem rd_neg {Ch : Nat → Nat} {len p k : Nat} (h : ∀ i, i < 80 → Ch i ≤ 126) (hl : len ≤ 80) (hk : k ≤ 4) : rdR Ch len p k < nI 0 ↔ nD Ch len p k = 0 := by
  unfold rdR
  have h1 := rdV_b (p := p) h hl hk
  split
  · rename_i q; exact ⟨fun _ => q, fun _ => by decide⟩
  · rename_i q; exact ⟨fun c => absurd c (nI_pos (by omega)), fun c => absurd c q⟩
theorem rd_str {Ch : Nat → Nat} {len p : Nat} (h : ∀ i, i < 80 → Ch i ≤ 126) (hl : len ≤ 80) : (nI 0 ≤ rdR Ch len p 1 ∧ rdR Ch len p 1 ≤ nI 3) ↔ (nD Ch len p 1 ≠ 0 ∧ a0 Ch len p ≤ 3) := by
  unfold rdR a0
  have h1 := rdV_b (p := p) (k := 1) h hl (by omega)
  split
  · rename_i q; exact ⟨fun c => absurd c.1 (by decide), fun c => absurd q c.1⟩
  · rename_i q
    rw [nI_leI (by omega) (by omega), nI_leI (by omega) (by omega)]
    exact ⟨fun c => ⟨q, c.2⟩, fun c => ⟨Nat.zero_le _, c.2⟩⟩
theorem rd_pos {Ch : Nat → Nat} {len p k : Nat} (h : nD Ch len p k ≠ 0) : rdR Ch len p k = nI (rdV Ch p (nD Ch len p k)) := by unfold rdR; rw [if_neg h]
theorem z_char {a : Nat} (h : a ≤ 126) : narrow .char (.int (nI a)) = .int (nI a) := by
  have hall : ∀ a, a < 127 → (nI a).toUInt32.toUInt16.toUInt32.toInt32 = nI a := by decide +kernel
  have := hall a (by omega)
  show Value.int _ = Value.int _
  exact congrArg Value.int this
theorem tV_b {Ch : Nat → Nat} {len p : Nat} (h : ∀ i, i < 80 → Ch i ≤ 126) (hl : len ≤ 80) : tV Ch len p ≤ 780000 := by
  unfold tV
  split
  · exact rdV_b h hl (by omega)
  · omega
theorem fV_b {Ch : Nat → Nat} {len p : Nat} (h : ∀ i, i < 80 → Ch i ≤ 126) (hl : len ≤ 80) : fV Ch len p ≤ 780000 := rdV_b h hl (by omega)
theorem qV_b {Ch : Nat → Nat} {len p : Nat} (h : ∀ i, i < 80 → Ch i ≤ 126) (hl : len ≤ 80) : qV Ch len p ≤ 780000 := rdV_b h hl (by omega)
theorem e3_lt {Ch : Nat → Nat} {len p : Nat} (h : okN Ch len p) : p < e3 Ch len p + 1 ∧ e3 Ch len p + 1 ≤ len := by
  have h8 := h.2.2.2.2.2.2.2
  have h9 := sgn_dig (show 48 ≤ sgn Ch len (e3 Ch len p) by omega)
  refine ⟨?_, by omega⟩
  unfold e3 e2 e1 e0
  split <;> omega
def told (Ch : Nat → Nat) (len p : Nat) : Int32 := if sgn Ch len (e2 Ch len p) = 43 then nI 1 else nI 0
theorem told_0 {Ch : Nat → Nat} {len p : Nat} (h : told Ch len p = nI 0) : sgn Ch len (e2 Ch len p) ≠ 43 := by
  intro q
  unfold told at h
  rw [if_pos q] at h
  exact absurd h (by decide)
theorem told_1 {Ch : Nat → Nat} {len p : Nat} (h : ¬ told Ch len p = nI 0) : sgn Ch len (e2 Ch len p) = 43 := by
  unfold told at h
  split at h
  · assumption
  · exact absurd rfl h
theorem in_iff {a b k : Nat} (ha : a < 2147483648) (hb : b < 2147483648) (hk : k < 2147483648) : (nI a ≤ nI k ∧ nI k ≤ nI b) ↔ (a ≤ k ∧ k ≤ b) := by
  rw [nI_leI (by omega) (by omega), nI_leI (by omega) (by omega)]
theorem z_narM2 {P Q : Prop} {X Y : va_W} : ∀ (v : Int32) (w' : va_W), ((v = nI 1 ∧ P ∧ w' = X) ∨ (v = nI 0 ∧ Q ∧ w' = Y)) → narrow .boolean (.int v) = .int v := by
  rintro v w' (⟨rfl, _⟩ | ⟨rfl, _⟩) <;> rfl
theorem rs_ok {Ch : Nat → Nat} {len p n tb : Nat} (h : rsN Ch len p n tb = 0) : okN Ch len p := by
  unfold rsN at h
  by_cases q : okN Ch len p
  · exact q
  · rw [if_pos q] at h; cases h
theorem rs_t {Ch : Nat → Nat} {len p n tb : Nat} (h : rsN Ch len p n tb = 0) : tb + tV Ch len p ≤ 100000 := by
  unfold rsN at h
  split at h
  · cases h
  · split at h
    · cases h
    · split at h
      · cases h
      · split at h
        · cases h
        · omega
theorem ff_s {Ch : Nat → Nat} {len n p t j : Nat} {X : Nat × Nat} (h : X = ffN Ch len n (80 - j) p t) (hj : j < 80) (hp : p < len) (hz : rsN Ch len p n t = 0) : X = ffN Ch len n (80 - (j + 1)) (e3 Ch len p + 1) (t + tV Ch len p) := by
  obtain ⟨m, hm⟩ : ∃ m, 80 - j = m + 1 := ⟨80 - j - 1, by omega⟩
  rw [h, hm, show 80 - (j + 1) = m by omega]
  simp only [ffN]
  rw [if_pos hp, if_pos hz]
theorem ff_e {Ch : Nat → Nat} {len n p t j : Nat} (hj : j < 80) (hp : p < len) (hz : rsN Ch len p n t ≠ 0) : ffN Ch len n (80 - j) p t = (rsN Ch len p n t, p) := by
  obtain ⟨m, hm⟩ : ∃ m, 80 - j = m + 1 := ⟨80 - j - 1, by omega⟩
  rw [hm]
  simp only [ffN]
  rw [if_pos hp, if_neg hz]
theorem ff_z {Ch : Nat → Nat} {len n p t j : Nat} (h : 80 ≤ j ∨ len ≤ p) : (ffN Ch len n (80 - j) p t).1 = 0 := by
  rcases Nat.eq_zero_or_pos (80 - j) with q | q
  · rw [q]; rfl
  · obtain ⟨m, hm⟩ : ∃ m, 80 - j = m + 1 := ⟨80 - j - 1, by omega⟩
    rw [hm]
    simp only [ffN]
    rw [if_neg (by omega)]
theorem z_narM6 {P Q : Prop} {X : va_W} {Y : Int32 → Int32 → Int32 → Int32 → Nat → Int32 → va_W} : ∀ (v : Int32) (w' : va_W), ((v = nI 1 ∧ P ∧ w' = X) ∨ (∃ (a b c d : Int32) (e : Nat) (f : Int32), v = nI 0 ∧ Q ∧ w' = Y a b c d e f)) → narrow .boolean (.int v) = .int v := by
  rintro v w' (⟨rfl, _⟩ | ⟨_, _, _, _, _, _, rfl, _⟩) <;> rfl
