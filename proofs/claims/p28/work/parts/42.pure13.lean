theorem z_narM7 {P Q : Prop} {X : va_W} {Y : Nat → Int32 → Int32 → Int32 → Int32 → Int32 → va_W} : ∀ (v : Int32) (w' : va_W), ((v = nI 1 ∧ P ∧ w' = X) ∨ (∃ (e : Nat) (a b c d f : Int32), v = nI 0 ∧ Q ∧ w' = Y e a b c d f)) → narrow .boolean (.int v) = .int v := by
  rintro v w' (⟨rfl, _⟩ | ⟨_, _, _, _, _, _, rfl, _⟩) <;> rfl
