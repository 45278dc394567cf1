theorem pm_k {α : Type} (f n h a b c d : List α) : (f ++ (n ++ (h ++ (a ++ (b ++ (c ++ d)))))).Perm ((h ++ (a ++ (b ++ (c ++ (d ++ n))))) ++ f) := by
  classical
  rw [List.perm_iff_count]
  intro q
  simp only [List.count_append]
  omega
