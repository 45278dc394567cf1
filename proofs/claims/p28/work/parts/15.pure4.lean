/-! ===== a state, as numbers ===== -/
def popL (a : Nat) : Nat → Nat
  | 0 => 0
  | k + 1 => popL a k + a / 2 ^ k % 2
def popc (a : Nat) : Nat := popL a 12
def bc1 (x : Int32) : Int32 := x - ((x.toUInt32 >>> ((nI 1).toUInt32 &&& Int32.toUInt32 31)).toInt32 &&& (1431655765 : Int32))
def bc2 (x : Int32) : Int32 := (x &&& (858993459 : Int32)) + ((x.toUInt32 >>> ((nI 2).toUInt32 &&& Int32.toUInt32 31)).toInt32 &&& (858993459 : Int32))
def bc3 (x : Int32) : Int32 := (x + (x.toUInt32 >>> ((nI 4).toUInt32 &&& Int32.toUInt32 31)).toInt32) &&& (252645135 : Int32)
def bc4 (x : Int32) : Int32 := x + (x.toUInt32 >>> ((nI 8).toUInt32 &&& Int32.toUInt32 31)).toInt32
def bc5 (x : Int32) : Int32 := x + (x.toUInt32 >>> ((nI 16).toUInt32 &&& Int32.toUInt32 31)).toInt32
theorem bc_pop0 : ∀ i, i < 64 → ∀ j, j < 64 → bc5 (bc4 (bc3 (bc2 (bc1 (nI (i * 64 + j)))))) &&& nI 63 = nI (popc (i * 64 + j)) := by decide +kernel
theorem bc_pop (a : Nat) (h : a < 4096) : bc5 (bc4 (bc3 (bc2 (bc1 (nI a))))) &&& nI 63 = nI (popc a) := by
  have := bc_pop0 (a / 64) (by omega) (a % 64) (by omega)
  rwa [show a / 64 * 64 + a % 64 = a by omega] at this
def mhL (Am : Nat → Nat) (h s : Nat) : Nat → Nat
  | 0 => 0
  | k + 1 => if 0 < Am (s * 12 + k) ∧ h ≤ Am (s * 12 + k) then mhL Am h s k ||| 2 ^ k else mhL Am h s k
theorem mhL_lt (Am : Nat → Nat) (h s : Nat) : ∀ k, mhL Am h s k < 2 ^ k
  | 0 => by simp [mhL]
  | k + 1 => by
    have ih := mhL_lt Am h s k
    have h2 : 2 ^ k < 2 ^ (k + 1) := Nat.pow_lt_pow_right (by omega) (by omega)
    simp only [mhL]
    split
    · exact Nat.or_lt_two_pow (by omega) h2
    · omega
def hrL (Am : Nat → Nat) (h : Nat) : Nat → Nat
  | 0 => 0
  | k + 1 => hrL Am h k + popc (mhL Am h k 12)
def fade (lo hi da n d a : Nat) : Nat := ((if d = 0 then a else a - a * da / 1000) - (if d = 0 then a else a - a * da / 1000) * (lo + hi * (n - 1)) / 1000) - 1
def fadeN (lo hi da n d : Nat) : Nat → Nat → Nat
  | 0, a => a
  | k + 1, a => fade lo hi da n d (fadeN lo hi da n d k a)
theorem fade_le {lo hi da n d a : Nat} : fade lo hi da n d a ≤ a := by
  unfold fade
  split <;> omega
theorem fadeN_le {lo hi da n d a : Nat} : ∀ k, fadeN lo hi da n d k a ≤ a
  | 0 => Nat.le_refl _
  | k + 1 => Nat.le_trans fade_le (fadeN_le k)
theorem fade_0 {lo hi da n d : Nat} : fade lo hi da n d 0 = 0 := Nat.le_zero.mp fade_le
theorem fadeN_z {lo hi da n d a t : Nat} (h : fadeN lo hi da n d t a = 0) : ∀ k, t ≤ k → fadeN lo hi da n d k a = 0
  | 0, hk => by
    obtain rfl : t = 0 := (by omega)
    exact h
  | k + 1, hk => by
    rcases Nat.lt_or_ge k t with q | q
    · obtain rfl : t = k + 1 := (by omega)
      exact h
    · simp only [fadeN]; rw [fadeN_z h k q, fade_0]
theorem da_le {a da : Nat} (h : da ≤ 1000) : a * da / 1000 ≤ a := Nat.div_le_of_le_mul (by rw [Nat.mul_comm]; exact Nat.mul_le_mul_right a h)
theorem fd_1 {b q : Nat} (hb : b ≤ 1000000) (hq : q ≤ 2147483647) (h : ¬ nI b - nI q ≤ nI 0) : nI b - nI q - nI 1 = nI (b - q - 1) := by
  have e : (nI b - nI q).toInt = (b : Int) - q := by
    rw [Int32.toInt_sub, nI_toInt (by omega), nI_toInt (by omega)]
    apply Int.bmod_eq_of_le <;> omega
  rw [Int32.le_iff_toInt_le, e, nI_toInt (by omega)] at h
  rw [pk_sub (by omega), pk_sub (by omega)]
theorem fd_0 {b q : Nat} (hb : b ≤ 1000000) (hq : q ≤ 2147483647) (h : nI b - nI q ≤ nI 0) : nI 0 = nI (b - q - 1) := by
  have e : (nI b - nI q).toInt = (b : Int) - q := by
    rw [Int32.toInt_sub, nI_toInt (by omega), nI_toInt (by omega)]
    apply Int.bmod_eq_of_le <;> omega
  rw [Int32.le_iff_toInt_le, e, nI_toInt (by omega)] at h
  rw [show b - q - 1 = 0 by omega]
-- ticks go by
def dmp (Fi St : Nat → Nat) (s n : Nat) : Nat := if St s < Fi s ∧ dist n (Fi s - St s) (2520 - St s) ≠ 0 then 1 else 0
def lgV (Fi St Se Am : Nat → Nat) (k i : Nat) : Nat := fadeN (Se 0) (Se 1) (Se 2) (i % 12 + 1) (dmp Fi St (i / 12) (i % 12 + 1)) k (Am i)
def lgL (Fi St Se Am : Nat → Nat) (k c : Nat) : Nat → Nat := fun i => if i < c then lgV Fi St Se Am k i else Am i
theorem lgL_0 (Fi St Se Am : Nat → Nat) (k : Nat) : Am = lgL Fi St Se Am k 0 := by funext i; simp only [lgL]; rw [if_neg (by omega)]
theorem lgL_at {Fi St Se Am : Nat → Nat} {k s g : Nat} (h : 1 ≤ g) : lgL Fi St Se Am k (s * 12 + (g - 1)) (s * 12 + g - 1) = Am (s * 12 + g - 1) := by simp only [lgL]; rw [if_neg (by omega)]
theorem lgL_s {Fi St Se Am : Nat → Nat} {k s g v : Nat} (h : 1 ≤ g) (h2 : g ≤ 12) (hv : v = fadeN (Se 0) (Se 1) (Se 2) g (dmp Fi St s g) k (Am (s * 12 + g - 1))) : va_up (lgL Fi St Se Am k (s * 12 + (g - 1))) (s * 12 + g - 1) v = lgL Fi St Se Am k (s * 12 + (g + 1 - 1)) := by
  funext i
  simp only [lgL, va_up]
  by_cases h1 : i = s * 12 + g - 1
  · rw [if_pos h1, if_pos (by omega), hv]
    unfold lgV
    rw [show i % 12 + 1 = g by omega, show i / 12 = s by omega, h1]
  · rw [if_neg h1]
    by_cases h2 : i < s * 12 + (g - 1)
    · rw [if_pos h2, if_pos (by omega)]
    · rw [if_neg h2, if_neg (by omega)]
def ttu (h lo hi da n d : Nat) : Nat → Nat → Nat → Int32
  | 0, _, _ => -4
  | f + 1, t, a => if 0 < a ∧ h ≤ a then ttu h lo hi da n d f (t + 1) (fade lo hi da n d a) else nI t
def adiff (x y : Nat) : Nat := (x - y) + (y - x)
theorem abs_e {x y : Nat} (hx : x < 2147483648) (hy : y < 2147483648) : (if 0 ≤ nI x - nI y then nI x - nI y else 0 - (nI x - nI y)) = nI (adiff x y) := by
  have e : (nI x - nI y).toInt = (x : Int) - y := by
    rw [Int32.toInt_sub, nI_toInt (by omega), nI_toInt (by omega)]
    apply Int.bmod_eq_of_le <;> omega
  have hle : 0 ≤ nI x - nI y ↔ y ≤ x := by
    rw [Int32.le_iff_toInt_le, e]
    show (0 : Int) ≤ _ ↔ _
    omega
  simp only [hle]
  unfold adiff
  split
  · rename_i h
    rw [pk_sub h]
    congr 1
    omega
  · rename_i h
    have : (0 : Int32) - (nI x - nI y) = nI y - nI x := by
      rw [Int32.sub_eq_add_neg, Int32.neg_sub, Int32.zero_add]
    rw [this, pk_sub (by omega)]
    congr 1
    omega
def heard (Am : Nat → Nat) (h s n : Nat) : Prop := 0 < Am (s * 12 + n - 1) ∧ h ≤ Am (s * 12 + n - 1)
def pitch (T St : Nat → Nat) (s n : Nat) : Nat := n * T s / (2520 - St s)
def beatV (T St Am : Nat → Nat) (h a n b m : Nat) : Nat := if (0 < Am (a * 12 + n - 1) ∧ h ≤ Am (a * 12 + n - 1)) ∧ (0 < Am (b * 12 + m - 1) ∧ h ≤ Am (b * 12 + m - 1)) then adiff (pitch T St a n) (pitch T St b m) else 0
theorem pitch_b {T St : Nat → Nat} {s n : Nat} (hn : n ≤ 12) (hT : T s ≤ 100000000) : pitch T St s n ≤ 1200000000 := by
  unfold pitch
  exact Nat.le_trans (Nat.div_le_self _ _) (Nat.mul_le_mul hn hT)
/-- of the first c pairs of modes: the least beat, and its modes; 0: none -/
def slL (T St Am : Nat → Nat) (h a b : Nat) : Nat → Nat × Nat × Nat
  | 0 => (0, 0, 0)
  | c + 1 => if 0 < beatV T St Am h a (c / 12 + 1) b (c % 12 + 1) ∧ ((slL T St Am h a b c).1 = 0 ∨ beatV T St Am h a (c / 12 + 1) b (c % 12 + 1) < (slL T St Am h a b c).1) then (beatV T St Am h a (c / 12 + 1) b (c % 12 + 1), c / 12 + 1, c % 12 + 1) else slL T St Am h a b c
theorem beatV_b {T St Am : Nat → Nat} {h a n b m : Nat} (hn : n ≤ 12) (hm : m ≤ 12) (hTa : T a ≤ 100000000) (hTb : T b ≤ 100000000) : beatV T St Am h a n b m ≤ 1200000000 := by
  have h1 := pitch_b (T := T) (St := St) (s := a) hn hTa
  have h2 := pitch_b (T := T) (St := St) (s := b) hm hTb
  unfold beatV adiff
  split <;> omega
theorem slL_b {T St Am : Nat → Nat} {h a b : Nat} (hTa : T a ≤ 100000000) (hTb : T b ≤ 100000000) : ∀ c, c ≤ 144 → (slL T St Am h a b c).1 ≤ 1200000000 ∧ (slL T St Am h a b c).2.1 ≤ 12 ∧ (slL T St Am h a b c).2.2 ≤ 12
  | 0, _ => by simp [slL]
  | c + 1, hc => by
    have ih := slL_b (St := St) (Am := Am) (h := h) hTa hTb c (by omega)
    have hb := beatV_b (T := T) (St := St) (Am := Am) (h := h) (a := a) (n := c / 12 + 1) (b := b) (m := c % 12 + 1) (by omega) (by omega) hTa hTb
    simp only [slL]
    split
    · exact ⟨hb, by show c / 12 + 1 ≤ 12; omega, by show c % 12 + 1 ≤ 12; omega⟩
    · exact ih
theorem slL_t {T St Am : Nat → Nat} {h a b n m v : Nat} (hm1 : 1 ≤ m) (hm : m ≤ 12) (hn : 1 ≤ n) (hv : v = beatV T St Am h a n b m) (c1 : 0 < v) (c2 : (slL T St Am h a b ((n - 1) * 12 + (m - 1))).1 = 0 ∨ v < (slL T St Am h a b ((n - 1) * 12 + (m - 1))).1) : slL T St Am h a b ((n - 1) * 12 + (m + 1 - 1)) = (v, n, m) := by
  subst hv
  rw [show (n - 1) * 12 + (m + 1 - 1) = (n - 1) * 12 + (m - 1) + 1 by omega]
  simp only [slL]
  rw [show ((n - 1) * 12 + (m - 1)) / 12 + 1 = n by omega, show ((n - 1) * 12 + (m - 1)) % 12 + 1 = m by omega, if_pos ⟨c1, c2⟩]
theorem slL_f {T St Am : Nat → Nat} {h a b n m v : Nat} (hm1 : 1 ≤ m) (hm : m ≤ 12) (hn : 1 ≤ n) (hv : v = beatV T St Am h a n b m) (c : ¬ (0 < v ∧ ((slL T St Am h a b ((n - 1) * 12 + (m - 1))).1 = 0 ∨ v < (slL T St Am h a b ((n - 1) * 12 + (m - 1))).1))) : slL T St Am h a b ((n - 1) * 12 + (m + 1 - 1)) = slL T St Am h a b ((n - 1) * 12 + (m - 1)) := by
  subst hv
  rw [show (n - 1) * 12 + (m + 1 - 1) = (n - 1) * 12 + (m - 1) + 1 by omega]
  conv => lhs; simp only [slL]
  rw [show ((n - 1) * 12 + (m - 1)) / 12 + 1 = n by omega, show ((n - 1) * 12 + (m - 1)) % 12 + 1 = m by omega, if_neg c]
-- from where the strings sound
def soL (P Hh : Nat → Nat) (n : Nat) (Pr So : Nat → Nat) (g : Nat) : Nat → Nat := fun i => if i < g then srcN P Hh n (Pr i) else So i
def stL (P Hh : Nat → Nat) (n : Nat) (Pr St : Nat → Nat) (g : Nat) : Nat → Nat := fun i => if i < g then atN P (srcN P Hh n (Pr i)) else St i
def amL (P Hh : Nat → Nat) (n : Nat) (Pr St Am : Nat → Nat) (g : Nat) : Nat → Nat := fun i => if i < g * 12 ∧ St (i / 12) ≠ atN P (srcN P Hh n (Pr (i / 12))) then 0 else Am i
theorem soL_0 (P Hh : Nat → Nat) (n : Nat) (Pr So : Nat → Nat) : So = soL P Hh n Pr So 0 := by funext i; simp only [soL]; rw [if_neg (by omega)]
theorem stL_0 (P Hh : Nat → Nat) (n : Nat) (Pr St : Nat → Nat) : St = stL P Hh n Pr St 0 := by funext i; simp only [stL]; rw [if_neg (by omega)]
theorem amL_0 (P Hh : Nat → Nat) (n : Nat) (Pr St Am : Nat → Nat) : Am = amL P Hh n Pr St Am 0 := by funext i; simp only [amL]; rw [if_neg (by omega)]
theorem soL_s (P Hh : Nat → Nat) (n : Nat) (Pr So : Nat → Nat) (g : Nat) : va_up (soL P Hh n Pr So g) g (srcN P Hh n (Pr g)) = soL P Hh n Pr So (g + 1) := by
  funext i
  simp only [soL, va_up]
  by_cases h1 : i = g
  · subst h1; rw [if_pos rfl, if_pos (by omega)]
  · rw [if_neg h1]
    by_cases h2 : i < g
    · rw [if_pos h2, if_pos (by omega)]
    · rw [if_neg h2, if_neg (by omega)]
theorem stL_s (P Hh : Nat → Nat) (n : Nat) (Pr St : Nat → Nat) (g : Nat) : va_up (stL P Hh n Pr St g) g (atN P (srcN P Hh n (Pr g))) = stL P Hh n Pr St (g + 1) := by
  funext i
  simp only [stL, va_up]
  by_cases h1 : i = g
  · subst h1; rw [if_pos rfl, if_pos (by omega)]
  · rw [if_neg h1]
    by_cases h2 : i < g
    · rw [if_pos h2, if_pos (by omega)]
    · rw [if_neg h2, if_neg (by omega)]
theorem amL_s (P Hh : Nat → Nat) (n : Nat) (Pr St Am : Nat → Nat) (g : Nat) : sfA (amL P Hh n Pr St Am g) (stL P Hh n Pr St g) g (atN P (srcN P Hh n (Pr g))) = amL P Hh n Pr St Am (g + 1) := by
  have e : stL P Hh n Pr St g g = St g := by simp only [stL]; rw [if_neg (by omega)]
  unfold sfA
  rw [e]
  funext i
  by_cases h : St g = atN P (srcN P Hh n (Pr g))
  · rw [if_pos h]
    simp only [amL]
    by_cases h2 : i < g * 12
    · by_cases h3 : St (i / 12) ≠ atN P (srcN P Hh n (Pr (i / 12)))
      · rw [if_pos ⟨h2, h3⟩, if_pos ⟨by omega, h3⟩]
      · rw [if_neg (fun q => h3 q.2), if_neg (fun q => h3 q.2)]
    · rw [if_neg (fun q => h2 q.1)]
      rw [if_neg (fun q => by
        have : i / 12 = g := by omega
        rw [this] at q
        exact q.2 h)]
  · rw [if_neg h]
    simp only [amL, qzL]
    by_cases h2 : g * 12 ≤ i ∧ i < g * 12 + 12
    · have : i / 12 = g := by omega
      rw [if_pos h2, if_pos ⟨by omega, by rw [this]; exact h⟩]
    · rw [if_neg h2]
      by_cases h3 : i < g * 12 ∧ St (i / 12) ≠ atN P (srcN P Hh n (Pr (i / 12)))
      · rw [if_pos h3, if_pos ⟨by omega, h3.2⟩]
      · rw [if_neg h3, if_neg (fun q => h3 ⟨by omega, q.2⟩)]
theorem stL_le {P Hh : Nat → Nat} {n : Nat} {Pr St : Nat → Nat} (hn : n ≤ 12) (hP : ∀ i, i < 12 → P i ≤ 2400) (hpr : ∀ i, i < 4 → Pr i ≤ n) (hst : ∀ i, i < 4 → St i ≤ 2400) (g : Nat) : ∀ i, i < 4 → stL P Hh n Pr St g i ≤ 2400 := by
  intro i hi
  simp only [stL]
  split
  · exact atN_le hP (Nat.le_trans (srcN_le P Hh (hpr i hi)) hn)
  · exact hst i hi
-- a pluck's wear
def pkH (Hh Wr : Nat → Nat) (f g q per : Nat) : Nat → Nat := if f = g then wH Hh Wr f q per else wH (wH Hh Wr f q per) (wW Hh Wr f q per) g q per
def pkW (Hh Wr : Nat → Nat) (f g q per : Nat) : Nat → Nat := if f = g then wW Hh Wr f q per else wW (wH Hh Wr f q per) (wW Hh Wr f q per) g q per
def pkL (Hh Wr : Nat → Nat) (f g q per lo : Nat) : Nat := if f = g then lo + wlost Hh Wr f q per else lo + wlost Hh Wr f q per + wlost (wH Hh Wr f q per) (wW Hh Wr f q per) g q per
theorem wH_le {Hh Wr : Nat → Nat} {f q per B : Nat} (h : ∀ i, i < 12 → Hh i ≤ B) : ∀ i, i < 12 → wH Hh Wr f q per i ≤ B := by
  intro i hi
  unfold wH
  split
  · exact h i hi
  · simp only [va_up]
    split
    · rename_i hf e
      subst e
      exact Nat.le_trans (Nat.sub_le _ _) (h _ hi)
    · exact h i hi
theorem wW_le {Hh Wr : Nat → Nat} {f q per B : Nat} (h : ∀ i, i < 12 → Wr i ≤ B) : ∀ i, i < 12 → wW Hh Wr f q per i ≤ B + q := by
  intro i hi
  have := h i hi
  unfold wW
  split
  · omega
  · simp only [va_up]
    split
    · rename_i hf e
      subst e
      omega
    · omega
theorem pkH_le {Hh Wr : Nat → Nat} {f g q per B : Nat} (h : ∀ i, i < 12 → Hh i ≤ B) : ∀ i, i < 12 → pkH Hh Wr f g q per i ≤ B := by
  unfold pkH
  split
  · exact wH_le h
  · exact wH_le (wH_le h)
theorem pkW_le {Hh Wr : Nat → Nat} {f g q per B : Nat} (h : ∀ i, i < 12 → Wr i ≤ B) : ∀ i, i < 12 → pkW Hh Wr f g q per i ≤ B + q + q := by
  unfold pkW
  split
  · intro i hi
    have := wW_le (Hh := Hh) (f := f) (q := q) (per := per) h i hi
    omega
  · exact wW_le (wW_le h)
theorem ttu_s {h lo hi da n d t a : Nat} {X : Int32} (hX : X = ttu h lo hi da n d (2001 - t) t a) (ht : t ≤ 2000) (c : 0 < a ∧ h ≤ a) : X = ttu h lo hi da n d (2001 - (t + 1)) (t + 1) (fade lo hi da n d a) := by
  obtain ⟨m, hm⟩ : ∃ m, 2001 - t = m + 1 := ⟨2001 - t - 1, by omega⟩
  rw [hX, hm, show 2001 - (t + 1) = m by omega]
  simp only [ttu]
  rw [if_pos c]
theorem ttu_e {h lo hi da n d t a : Nat} (ht : t ≤ 2000) (c : ¬ (0 < a ∧ h ≤ a)) : nI t = ttu h lo hi da n d (2001 - t) t a := by
  obtain ⟨m, hm⟩ : ∃ m, 2001 - t = m + 1 := ⟨2001 - t - 1, by omega⟩
  rw [hm]
  simp only [ttu]
  rw [if_neg c]
theorem insA_le {P : Nat → Nat} {n k v B : Nat} (h : ∀ i, i < 12 → P i ≤ B) (hv : v ≤ B) : ∀ i, i < 12 → insA P n k v i ≤ B := by
  intro i hi
  simp only [insA, va_up, shf]
  split
  · exact hv
  · split
    · exact h _ (by omega)
    · exact h _ hi
theorem mrfL_le {Pr : Nat → Nat} {f n : Nat} (h : ∀ i, i < 4 → Pr i ≤ n) : ∀ i, i < 4 → mrfL Pr f 4 i ≤ n + 1 := by
  intro i hi
  have := h i hi
  simp only [mrfL]
  split <;> omega
