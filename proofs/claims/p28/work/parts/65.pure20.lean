/-! ===== what the component's reads say ===== -/
theorem tab_o {x : Int32} (n : Nat) (hn : n < 2147483648) (h : x.toInt < 0 ∨ (n : Int) < x.toInt) : ¬ (nI 0 ≤ x ∧ x ≤ nI n) := by
  intro q
  obtain ⟨k, -, q1, rfl⟩ := z_ge (by omega) hn q.1 q.2
  rw [nI_toInt (by omega)] at h
  omega
def fiX (X : Nat → Nat → Nat) (f w : Nat) : Int32 := if w = 0 then nI (atN (X 0) f) else if w = 1 then nI (atN (X 1) f) else if w = 2 then nI (atN (X 2) f) else if w = 3 then nI (maskL (X 4) f 4) else if w = 4 then nI (maskL (X 7) f 4) else nI (srcN (X 0) (X 1) (X 13 0) f)
def miX (X : Nat → Nat → Nat) (s n w : Nat) : Int32 := if w = 0 then nI (X 9 (s * 12 + n - 1)) else if w = 1 then nI (n * X 3 s / (2520 - X 8 s)) else nI (Nat.gcd (2520 - X 8 s) n - 1)
