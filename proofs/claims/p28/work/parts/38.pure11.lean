/-! ===== the reference's beats ===== -/
theorem am_i2 {M : Nat → Nat} {s n : Nat} (h : 1 ≤ n) : mAm M (s * 12 + n - 1) = M (61 + 12 * s + n - 1) := by
  unfold mAm
  congr 1
  omega
theorem x_toInt {p q : Nat} {x : Int32} (hp : p ≤ 1200000000) (hq : q ≤ 1200000000) (ex : x = nI p - nI q) : x.toInt = (p : Int) - q := by
  rw [ex, Int32.toInt_sub, nI_toInt (by omega), nI_toInt (by omega)]
  apply Int.bmod_eq_of_le <;> omega
theorem bt_n {M : Nat → Nat} {a n b m : Nat} (hn : 1 ≤ n) (hm : 1 ≤ m) (c : ¬ ((0 < M (61 + 12 * a + n - 1) ∧ M 8 ≤ M (61 + 12 * a + n - 1)) ∧ (0 < M (61 + 12 * b + m - 1) ∧ M 8 ≤ M (61 + 12 * b + m - 1)))) : beatV (mT M) (mSt M) (mAm M) (M 8) a n b m = 0 := by
  unfold beatV
  rw [am_i2 hn, am_i2 hm, if_neg c]
theorem bt_y {M : Nat → Nat} {a n b m : Nat} (hn : 1 ≤ n) (hm : 1 ≤ m) (c1 : 0 < M (61 + 12 * a + n - 1) ∧ M 8 ≤ M (61 + 12 * a + n - 1)) (c2 : 0 < M (61 + 12 * b + m - 1) ∧ M 8 ≤ M (61 + 12 * b + m - 1)) : beatV (mT M) (mSt M) (mAm M) (M 8) a n b m = adiff (pitch (mT M) (mSt M) a n) (pitch (mT M) (mSt M) b m) := by
  unfold beatV
  rw [am_i2 hn, am_i2 hm, if_pos ⟨c1, c2⟩]
theorem bt_z {p q : Nat} {x : Int32} (hp : p ≤ 1200000000) (hq : q ≤ 1200000000) (ex : x = nI p - nI q) (c : x = nI 0) : adiff p q = 0 := by
  have := x_toInt hp hq ex
  rw [c, nI_toInt (by omega)] at this
  unfold adiff
  omega
theorem bt_p {p q : Nat} {x : Int32} (hp : p ≤ 1200000000) (hq : q ≤ 1200000000) (ex : x = nI p - nI q) (c : ¬ x = nI 0) : 0 < adiff p q := by
  have := x_toInt hp hq ex
  have h : x.toInt ≠ 0 := fun h => c (Int32.toInt_inj.mp (by rw [h, nI_toInt (by omega)]; rfl))
  unfold adiff
  omega
theorem bt_pos {p q : Nat} {x : Int32} (hp : p ≤ 1200000000) (hq : q ≤ 1200000000) (ex : x = nI p - nI q) (c : nI 0 ≤ x) : x = nI (adiff p q) := by
  have := x_toInt hp hq ex
  rw [Int32.le_iff_toInt_le, this, nI_toInt (by omega)] at c
  apply Int32.toInt_inj.mp
  unfold adiff
  rw [this, nI_toInt (by omega)]
  omega
theorem bt_neg {p q : Nat} {x : Int32} (hp : p ≤ 1200000000) (hq : q ≤ 1200000000) (ex : x = nI p - nI q) (c : ¬ nI 0 ≤ x) : 0 - x = nI (adiff p q) := by
  have := x_toInt hp hq ex
  rw [Int32.le_iff_toInt_le, this, nI_toInt (by omega)] at c
  rw [ex, show (0 : Int32) - (nI p - nI q) = nI q - nI p by rw [Int32.sub_eq_add_neg, Int32.neg_sub, Int32.zero_add], pk_sub (by omega)]
  unfold adiff
  congr 1
  omega
theorem sl_neg {X : Nat} {v : Int32} (hX : X ≤ 1200000000) (h : v = if X = 0 then -4 else nI X) : v < nI 0 ↔ X = 0 := by
  rw [h]
  split
  · rename_i q; exact ⟨fun _ => q, fun _ => by decide⟩
  · rename_i q; exact ⟨fun c => absurd c (nI_pos (by omega)), fun c => absurd c q⟩
theorem sl_le {X b : Nat} {v : Int32} (hX : X ≤ 1200000000) (hb : b ≤ 1200000000) (h : v = if X = 0 then -4 else nI X) (h0 : X ≠ 0) : v ≤ nI b ↔ X ≤ b := by
  rw [h, if_neg h0]
  exact nI_leI (by omega) (by omega)
theorem sl_r0 {X Y Z : Nat} {v w : Int32} (h : v = if X = 0 then -4 else nI X) (c : v < nI 0) (hX : X ≤ 1200000000) : v = if X = 0 then -4 else if w = nI 0 then nI X else if w = nI 1 then nI Y else nI Z := by
  have h0 := (sl_neg hX h).mp c
  rw [if_pos h0] at h ⊢
  exact h
theorem sl_r1 {X Y Z : Nat} {v w : Int32} (h : v = if X = 0 then -4 else nI X) (c : w = nI 0) : v = if X = 0 then -4 else if w = nI 0 then nI X else if w = nI 1 then nI Y else nI Z := by
  rw [if_pos c]
  exact h
theorem sl_r2 {X Y Z : Nat} {v w : Int32} (h : v = if X = 0 then -4 else nI X) (hX : X ≤ 1200000000) (c : ¬ v < nI 0) (c0 : ¬ w = nI 0) (c1 : w = nI 1) : nI Y = if X = 0 then -4 else if w = nI 0 then nI X else if w = nI 1 then nI Y else nI Z := by
  rw [if_neg (fun q => c ((sl_neg hX h).mpr q)), if_neg c0, if_pos c1]
theorem sl_r3 {X Y Z : Nat} {v w : Int32} (h : v = if X = 0 then -4 else nI X) (hX : X ≤ 1200000000) (c : ¬ v < nI 0) (c0 : ¬ w = nI 0) (c1 : ¬ w = nI 1) : nI Z = if X = 0 then -4 else if w = nI 0 then nI X else if w = nI 1 then nI Y else nI Z := by
  rw [if_neg (fun q => c ((sl_neg hX h).mpr q)), if_neg c0, if_neg c1]
