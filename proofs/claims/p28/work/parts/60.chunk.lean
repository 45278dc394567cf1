/-! ===== worlds in chunks: a state as one list ===== -/
def stW (E : zE) (ad : Nat → Nat) (X : Nat → Nat → Nat) : va_W := [((ad 0), .inr (4, [.ref (ad 1), .ref (ad 5), .ref (ad 13), .ref (ad 16), .int (nI (X 13 2)), .int (nI (X 13 3))])), ((ad 1), .inr (1, [.int (nI (X 13 0)), .ref (ad 2), .ref (ad 3), .ref (ad 4)])), ((ad 2), .inl (E.2.1, 12, .inl (fun zz => nI ((X 0) zz)))), ((ad 3), .inl (E.2.1, 12, .inl (fun zz => nI ((X 1) zz)))), ((ad 4), .inl (E.2.1, 12, .inl (fun zz => nI ((X 2) zz)))), ((ad 5), .inr (5, [.ref (ad 6), .ref (ad 7), .ref (ad 8), .ref (ad 9), .ref (ad 10), .ref (ad 11), .ref (ad 12)])), ((ad 6), .inl (E.2.1, 4, .inl (fun zz => nI ((X 3) zz)))), ((ad 7), .inl (E.2.1, 4, .inl (fun zz => nI ((X 4) zz)))), ((ad 8), .inl (E.2.1, 4, .inl (fun zz => nI ((X 5) zz)))), ((ad 9), .inl (E.2.1, 4, .inl (fun zz => nI ((X 6) zz)))), ((ad 10), .inl (E.2.1, 4, .inl (fun zz => nI ((X 7) zz)))), ((ad 11), .inl (E.2.1, 4, .inl (fun zz => nI ((X 8) zz)))), ((ad 12), .inl (E.2.1, 48, .inl (fun zz => nI ((X 9) zz)))), ((ad 13), .inr (2, [.int (nI (X 13 1)), .ref (ad 14), .ref (ad 15)])), ((ad 14), .inl (E.2.1, 52, .inl (fun zz => nI ((X 10) zz)))), ((ad 15), .inl (E.2.1, 52, .inl (fun zz => nI ((X 11) zz)))), ((ad 16), .inl (E.2.1, 5, .inl (fun zz => nI ((X 12) zz))))]
def stA (ad : Nat → Nat) : List Nat := [ad 0, ad 1, ad 2, ad 3, ad 4, ad 5, ad 6, ad 7, ad 8, ad 9, ad 10, ad 11, ad 12, ad 13, ad 14, ad 15, ad 16]
theorem stW_a (E : zE) (ad : Nat → Nat) (X : Nat → Nat → Nat) : (stW E ad X).map (·.1) = stA ad := rfl
theorem stW_n (E : zE) (ad : Nat → Nat) (X : Nat → Nat → Nat) : (stW E ad X).length = 17 := rfl
theorem zP_mem {D : va_G} {cl : List vw_C} {ws w : va_W} {H : Heap} (h : ∀ q, q ∈ w → q ∈ ws) (hP : va_P D cl ws H) : va_P D cl w H := by
  intro k q hq
  obtain ⟨i, hi⟩ := List.mem_iff_getElem?.mp (h q (List.mem_of_getElem? hq))
  exact hP i q hi
theorem zP_perm {D : va_G} {cl : List vw_C} {ws w : va_W} {H : Heap} (h : ws.Perm w) (hP : va_P D cl ws H) : va_P D cl w H := zP_mem (fun q hq => h.mem_iff.mpr hq) hP
theorem zP_left {D : va_G} {cl : List vw_C} {w fr : va_W} {H : Heap} (hP : va_P D cl (w ++ fr) H) : va_P D cl w H := zP_mem (fun _ hq => List.mem_append_left _ hq) hP
theorem zD_nd {A : Nat → Prop} {ws : va_W} : va_D A ws ↔ (ws.map (·.1)).Nodup ∧ ∀ q, q ∈ ws → A q.1 := by
  constructor
  · rintro ⟨h1, h2⟩
    refine ⟨List.pairwise_iff_getElem.mpr (fun i j hi hj hij => ?_), fun q hq => ?_⟩
    · intro e
      rw [List.getElem_map, List.getElem_map] at e
      rw [List.length_map] at hi hj
      have := h1 i j _ _ (List.getElem?_eq_getElem hi) (List.getElem?_eq_getElem hj) e
      omega
    · obtain ⟨i, hi⟩ := List.mem_iff_getElem?.mp hq
      exact h2 i q hi
  · rintro ⟨h1, h2⟩
    refine ⟨fun i j p q hp hq e => ?_, fun k q hk => h2 q (List.mem_of_getElem? hk)⟩
    obtain ⟨hi, ei⟩ := List.getElem?_eq_some_iff.mp hp
    obtain ⟨hj, ej⟩ := List.getElem?_eq_some_iff.mp hq
    have hd := List.pairwise_iff_getElem.mp h1
    rcases Nat.lt_trichotomy i j with z | z | z
    · exact absurd (by rw [List.getElem_map, List.getElem_map, ei, ej]; exact e) (hd i j (by rw [List.length_map]; exact hi) (by rw [List.length_map]; exact hj) z)
    · exact z
    · exact absurd (by rw [List.getElem_map, List.getElem_map, ei, ej]; exact e.symm) (hd j i (by rw [List.length_map]; exact hj) (by rw [List.length_map]; exact hi) z)
theorem zD_perm {A : Nat → Prop} {ws w : va_W} (h : ws.Perm w) (hD : va_D A ws) : va_D A w := by
  obtain ⟨h1, h2⟩ := zD_nd.mp hD
  exact zD_nd.mpr ⟨(h.map (·.1)).nodup_iff.mp h1, fun q hq => h2 q (h.mem_iff.mpr hq)⟩
theorem zD_left {A : Nat → Prop} {w fr : va_W} (hD : va_D A (w ++ fr)) : va_D (fun _ => True) w := by
  obtain ⟨h1, -⟩ := zD_nd.mp hD
  rw [List.map_append] at h1
  exact zD_nd.mpr ⟨(List.nodup_append.mp h1).1, fun _ _ => trivial⟩
theorem zput_app : ∀ (xs ys pre fr : va_W), xs.length = ys.length → zput (List.range' pre.length ys.length) xs (pre ++ (ys ++ fr)) = pre ++ (xs ++ fr)
  | [], [], _, _, _ => rfl
  | x :: xs, y :: ys, pre, fr, h => by
    have ih := zput_app xs ys (pre ++ [x]) fr (by simpa using h)
    rw [List.length_append, List.append_assoc, List.append_assoc] at ih
    show zput (pre.length :: List.range' (pre.length + 1) ys.length) (x :: xs) _ = _
    simp only [zput]
    rw [List.set_append_right _ _ (Nat.le_refl _), Nat.sub_self]
    exact ih
theorem zC_app (w fr : va_W) : (List.range' 0 w.length).map (fun i => (w ++ fr)[i]?) = w.map some := by
  apply List.ext_getElem?
  intro i
  rw [List.getElem?_map, List.getElem?_map]
  rcases Nat.lt_or_ge i w.length with q | q
  · rw [List.getElem?_range' q, Option.map_some, Nat.zero_add, Nat.one_mul, List.getElem?_append_left q, List.getElem?_eq_getElem q, Option.map_some]
  · rw [List.getElem?_eq_none (by rw [List.length_range']; exact q), List.getElem?_eq_none q]
    rfl
section ZP
variable {p : Program} {l : Launch} {e : Env} {R : Room} {s : State} {m : MethodId} {args : Array Value} {below : List Frame} {meth : Method} {c : Code} {H : Heap} {locs : List Loc} {cells slots : Nat} {Q : State → Prop}
variable {pc : Nat} {ls : Array Slot} {rest st0 : List Value} {a : Array Value} {A : Nat → Prop} {H0 : Heap}
theorem z_vdP {E : zE} {w ws fr : va_W} {post : va_W → Prop} (hp : ws.Perm (w ++ fr)) (hr : va_Run p l e R s m args below meth c H locs cells slots 0 0 (F0 m pc ls st0) rest (zQv E w post a) (zAd w)) (hP : va_P E.1 vwCl ws H) (hD : va_D A ws) (hS : va_S A H0 H locs) (hl : ∀ w', post w' → w'.length = w.length)
    (kk : ∀ (w' : va_W) (H1 : Heap) (locs1 : List Loc), post w' → va_P E.1 vwCl (w' ++ fr) H1 → va_D A (w' ++ fr) → va_S A H0 H1 locs1 → W p l e R s m args below meth c H1 locs1 cells slots Q (F0 m (pc + 3) ls rest)) : W p l e R s m args below meth c H locs cells slots Q (F0 m pc ls st0) := by
  refine z_vd (List.range' 0 w.length) hr (zP_perm hp hP) (zD_perm hp hD) hS (zC_app w fr) (fun w' H1 locs1 hw hP1 hD1 hS1 => kk w' H1 locs1 hw ?_ ?_ hS1)
  · have := zput_app w' w [] fr (hl w' hw)
    rw [List.length_nil, List.nil_append, List.nil_append] at this
    rw [this] at hP1
    exact hP1
  · have := zput_app w' w [] fr (hl w' hw)
    rw [List.length_nil, List.nil_append, List.nil_append] at this
    rw [this] at hD1
    exact hD1
end ZP
theorem pm_a {α : Type} (h a b c d n : List α) : (h ++ (a ++ (b ++ (c ++ (d ++ n))))).Perm ((a ++ n) ++ (h ++ (b ++ (c ++ d)))) := by
  classical
  rw [List.perm_iff_count]
  intro q
  simp only [List.count_append]
  omega
theorem pm_b {α : Type} (h a b c d n : List α) : (h ++ (a ++ (b ++ (c ++ (d ++ n))))).Perm ((b ++ n) ++ (h ++ (a ++ (c ++ d)))) := by
  classical
  rw [List.perm_iff_count]
  intro q
  simp only [List.count_append]
  omega
theorem pm_c {α : Type} (h a b c d n : List α) : (h ++ (a ++ (b ++ (c ++ (d ++ n))))).Perm ((c ++ n) ++ (h ++ (a ++ (b ++ d)))) := by
  classical
  rw [List.perm_iff_count]
  intro q
  simp only [List.count_append]
  omega
theorem pm_d {α : Type} (h a b c d n : List α) : (h ++ (a ++ (b ++ (c ++ (d ++ n))))).Perm ((d ++ n) ++ (h ++ (a ++ (b ++ c)))) := by
  classical
  rw [List.perm_iff_count]
  intro q
  simp only [List.count_append]
  omega
theorem pm_2 {α : Type} (r n f : List α) : ((r ++ n) ++ f).Perm ((n ++ r) ++ f) := List.Perm.append_right _ List.perm_append_comm
/-- a state put into another, in chunks -/
theorem c_copyW (l : Launch) (E : zE) (ar ad : Nat → Nat) (Y X : Nat → Nat → Nat) : zV l yX4_copyFrom wsX4_copyFrom ({ frames := 2, cells := 0, slots := 0, locals := 61 }) E [.ref (ar 0), .ref (ad 0)] (stW E ar Y ++ stW E ad X) (fun w' => w' = stW E ar X ++ stW E ad X) :=
  c_X4_copyFrom l E (ar 0) (ar 1) (ar 5) (ar 13) (ar 16) (Y 13 2) (Y 13 3) (ar 2) (ar 3) (ar 4) (Y 13 0) (ar 6) (ar 7) (ar 8) (ar 9) (ar 10) (ar 11) (ar 12) (ar 14) (ar 15) (Y 13 1) (ad 0) (ad 1) (ad 5) (ad 13) (ad 16) (X 13 2) (X 13 3) (ad 2) (ad 3) (ad 4) (X 13 0) (ad 6) (ad 7) (ad 8) (ad 9) (ad 10) (ad 11) (ad 12) (ad 14) (ad 15) (X 13 1) (Y 0) (Y 1) (Y 2) (Y 3) (Y 4) (Y 5) (Y 6) (Y 7) (Y 8) (Y 9) (Y 10) (Y 11) (Y 12) (X 0) (X 1) (X 2) (X 3) (X 4) (X 5) (X 6) (X 7) (X 8) (X 9) (X 10) (X 11) (X 12)
