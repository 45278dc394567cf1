def plX (X : Nat → Nat → Nat) (k w : Nat) : Nat := if w = 0 then X 10 k / 13 else if w = 1 then X 10 k % 13 else X 11 (X 10 k)
