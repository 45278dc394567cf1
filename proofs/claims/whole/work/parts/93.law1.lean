/-! ===== the law's own rows ===== -/
section LAWROWS
variable {p : Program} {l : Launch} {e : Env} {R : Room} {s : State} {m : MethodId} {args : Array Value} {below : List Frame} {meth : Method} {c : Code} {H : Heap} {locs : List Loc} {cells slots : Nat} {Q : State → Prop}
variable {cc : ByteArray} {pc : Nat} {ls : Array Slot} {rest st0 : List Value} {a : Array Value} {A : Nat → Prop} {H0 : Heap}
theorem z_sld (hx : p.tables.exec = Jvm.exec) (hb : c.code = cc) {b L : Nat} {xs : Nat → Int32} (hX : va_X b L xs s H0) (hbl : b < H0.size) (hbA : ¬ A b) (hS : va_S A H0 H locs) {j : Nat} (hj : j < L) (hL : L ≤ 2560) (hdg : decode cc pc = .ok (.iaload, 1))
    (kk : W p l e R s m args below meth c H locs cells slots Q (F0 m (pc + 1) ls (.int (xs j) :: rest))) : W p l e R s m args below meth c H locs cells slots Q (F0 m pc ls (.int (nI j) :: .ref b :: rest)) :=
  va_sld hx hb hX hbl hbA hS (vp_in_nI hj (by omega)) hdg (by rw [z_clamp (by omega)]; exact kk)
theorem z_mdP {E : zE} {w ws fr : va_W} {post : Int32 → va_W → Prop} (hp : ws.Perm (w ++ fr)) (hr : va_Run p l e R s m args below meth c H locs cells slots 0 0 (F0 m pc ls st0) rest (zQm E w post a) (zAd w)) (hP : va_P E.1 vwCl ws H) (hD : va_D A ws) (hS : va_S A H0 H locs)
    (kk : ∀ (r : Int32) (w' : va_W) (H1 : Heap) (locs1 : List Loc), post r w' → va_P E.1 vwCl (w' ++ fr) H1 → va_D A (w' ++ fr) → va_S A H0 H1 locs1 → W p l e R s m args below meth c H1 locs1 cells slots Q (F0 m (pc + 3) ls (.int r :: rest))) : W p l e R s m args below meth c H locs cells slots Q (F0 m pc ls st0) := by
  have hP0 := zP_perm hp hP
  have hD0 := zD_perm hp hD
  have hC := zC_app w fr
  have hf := z_free hD0 (List.range' 0 w.length) hC
  intro T hT X
  obtain ⟨v, st₀, t, T', Ls, h0, X', hL, e1, e2, ⟨⟨r, w', hv, hpo, ha, hP1⟩, hz, hk⟩, st⟩ := hr T hT X
  cases hv
  rw [h0] at hz hk
  rw [← e1] at hz hk hP1
  obtain ⟨j1, j2⟩ := z_join hP0 hD0 (List.range' 0 w.length) hC ha (fun q h1 h2 => hk q h1 h2) hP1
  have hlen : w'.length = w.length := by simpa using congrArg List.length ha
  have hput := zput_app w' w [] fr hlen
  rw [List.length_nil, List.nil_append, List.nil_append] at hput
  rw [hput] at j1 j2
  obtain ⟨t2, a1, b1⟩ := kk r w' T'.heap (locs ++ Ls) hpo j1 j2
    ⟨Nat.le_trans hS.1 hz, fun q h1 h2 => by rw [hk q (Nat.lt_of_lt_of_le h1 hS.1) (fun z => h2 (hf q z))]; exact hS.2.1 q h1 h2, fun q hq => by
      rcases List.mem_append.mp hq with h | h
      · exact hS.2.2 q h
      · exact hf _ (hL q h)⟩ T' rfl X'
  exact ⟨t2, st t2 a1, b1⟩
end LAWROWS
def LW (E : zE) (fs sc hi ch rw x ms mp mt md : Nat) (ad adA adB adC adD : Nat → Nat) (hz old len pl fp sp fm : Nat) (X XA XB XC XD : Nat → Nat → Nat) (st fr fo ti to q1 q2 q3 q4 q5 : Int32) (Ch M Pa Sd : Nat → Nat) : va_W := ((x, .inr (7, [.ref ms, .ref mp, .int (nI hz), .ref mt, .int (nI len), .ref md, .int (nI sp), .int q1, .int q2, .int q3, .int q4, .int q5, .int (nI fm)])) :: (ms, .inl (E.2.1, 265, .inl (fun zz => nI (M zz)))) :: (mp, .inl (E.2.1, 1060, .inl (fun zz => nI (Pa zz)))) :: (mt, .inl (E.2.1, 80, .inl (fun zz => nI (Ch zz)))) :: (md, .inl (E.2.1, 4, .inl (fun zz => nI (Sd zz)))) :: (sc, .inr (3, [.int (nI len), .ref ch, .int st, .int fr, .int fo, .int ti, .int (nI pl), .int to, .int (nI fp)])) :: (ch, .inl (E.2.2.1, 80, .inl (fun zz => nI (Ch zz)))) :: (fs, .inr (6, [.ref (ad 0), .ref hi, .ref sc])) :: ((ad 0), .inr (4, [.ref (ad 1), .ref (ad 5), .ref (ad 13), .ref (ad 16), .int (nI (X 13 2)), .int (nI (X 13 3))])) :: ((ad 1), .inr (1, [.int (nI (X 13 0)), .ref (ad 2), .ref (ad 3), .ref (ad 4)])) :: ((ad 2), .inl (E.2.1, 12, .inl (fun zz => nI ((X 0) zz)))) :: ((ad 3), .inl (E.2.1, 12, .inl (fun zz => nI ((X 1) zz)))) :: ((ad 4), .inl (E.2.1, 12, .inl (fun zz => nI ((X 2) zz)))) :: ((ad 5), .inr (5, [.ref (ad 6), .ref (ad 7), .ref (ad 8), .ref (ad 9), .ref (ad 10), .ref (ad 11), .ref (ad 12)])) :: ((ad 6), .inl (E.2.1, 4, .inl (fun zz => nI ((X 3) zz)))) :: ((ad 7), .inl (E.2.1, 4, .inl (fun zz => nI ((X 4) zz)))) :: ((ad 8), .inl (E.2.1, 4, .inl (fun zz => nI ((X 5) zz)))) :: ((ad 9), .inl (E.2.1, 4, .inl (fun zz => nI ((X 6) zz)))) :: ((ad 10), .inl (E.2.1, 4, .inl (fun zz => nI ((X 7) zz)))) :: ((ad 11), .inl (E.2.1, 4, .inl (fun zz => nI ((X 8) zz)))) :: ((ad 12), .inl (E.2.1, 48, .inl (fun zz => nI ((X 9) zz)))) :: ((ad 13), .inr (2, [.int (nI (X 13 1)), .ref (ad 14), .ref (ad 15)])) :: ((ad 14), .inl (E.2.1, 52, .inl (fun zz => nI ((X 10) zz)))) :: ((ad 15), .inl (E.2.1, 52, .inl (fun zz => nI ((X 11) zz)))) :: ((ad 16), .inl (E.2.1, 5, .inl (fun zz => nI ((X 12) zz)))) :: (hi, .inr (0, [.int (nI hz), .int (nI old), .ref rw])) :: (rw, .inl (E.2.2.2, 4, .inr (.inr (.inr (.inr (rr4 (adA 0) (adB 0) (adC 0) (adD 0))))))) :: (stW E adA XA ++ (stW E adB XB ++ (stW E adC XC ++ (stW E adD XD)))))
def LInv (s : State) (A : Nat → Prop) (E : zE) (fs sc hi ch rw x ms mp mt md : Nat) (ad adA adB adC adD : Nat → Nat) (n0 : Nat) (H : Heap) (locs : List Loc) : Prop := ∃ (hz old len pl fp sp fm : Nat) (X XA XB XC XD : Nat → Nat → Nat) (st fr fo ti to q1 q2 q3 q4 q5 : Int32) (Ch M Pa Sd : Nat → Nat), va_P E.1 vwCl (LW E fs sc hi ch rw x ms mp mt md ad adA adB adC adD hz old len pl fp sp fm X XA XB XC XD st fr fo ti to q1 q2 q3 q4 q5 Ch M Pa Sd) H ∧ va_D A (LW E fs sc hi ch rw x ms mp mt md ad adA adB adC adD hz old len pl fp sp fm X XA XB XC XD st fr fo ti to q1 q2 q3 q4 q5 Ch M Pa Sd) ∧ va_S A s.heap H locs ∧ LR hz old len X XA XB XC XD Ch M Pa n0
def LF (p : Program) (s : State) (m : MethodId) (c : Code) (b L : Nat) (xs : Nat → Int32) (E : zE) (A : Nat → Prop) (tm tl : Nat) : Prop := CallFix p m c cL_law 4 s #[Value.ref b] wsL_law RL ∧ zG E s ∧ va_X b L xs s s.heap ∧ b < s.heap.size ∧ ¬ A b ∧ zST tm tl A s s.heap
theorem pq_1 {α : Type} (c0 c1 c2 c3 c4 c5 c6 c7 c8 c9 c10 : List α) : (c0 ++ (c1 ++ (c2 ++ (c3 ++ (c4 ++ (c5 ++ (c6 ++ (c7 ++ (c8 ++ (c9 ++ (c10))))))))))).Perm ((c6 ++ (c7 ++ (c8 ++ (c9 ++ (c10))))) ++ (c0 ++ (c1 ++ (c2 ++ (c3 ++ (c4 ++ (c5))))))) := by
  classical
  rw [List.perm_iff_count]
  intro q
  simp only [List.count_append]
  omega
theorem pq_2 {α : Type} (c0 c1 c2 c3 c4 c5 c6 : List α) : (c0 ++ (c1 ++ (c2 ++ (c3 ++ (c4 ++ (c5 ++ (c6))))))).Perm ((c1 ++ (c2 ++ (c3 ++ (c5)))) ++ (c0 ++ (c4 ++ (c6)))) := by
  classical
  rw [List.perm_iff_count]
  intro q
  simp only [List.count_append]
  omega
theorem pb_fret {α : Type} (c0 c1 c2 c3 c4 c5 c6 c7 c8 c9 c10 : List α) : ((c0 ++ (c1 ++ (c2 ++ (c4)))) ++ ((c6 ++ (c7 ++ (c8 ++ (c9 ++ (c10))))) ++ (c3 ++ (c5)))).Perm (c0 ++ (c1 ++ (c2 ++ (c3 ++ (c4 ++ (c5 ++ (c6 ++ (c7 ++ (c8 ++ (c9 ++ (c10))))))))))) := by
  classical
  rw [List.perm_iff_count]
  intro q
  simp only [List.count_append]
  omega
theorem pb_level {α : Type} (c0 c1 c2 c3 c4 c5 c6 c7 c8 c9 c10 : List α) : ((c0 ++ (c1 ++ (c2 ++ (c4)))) ++ ((c6 ++ (c7 ++ (c8 ++ (c9 ++ (c10))))) ++ (c3 ++ (c5)))).Perm (c0 ++ (c1 ++ (c2 ++ (c3 ++ (c4 ++ (c5 ++ (c6 ++ (c7 ++ (c8 ++ (c9 ++ (c10))))))))))) := by
  classical
  rw [List.perm_iff_count]
  intro q
  simp only [List.count_append]
  omega
theorem pq_3 {α : Type} (c0 c1 c2 c3 c4 c5 c6 : List α) : (c0 ++ (c1 ++ (c2 ++ (c3 ++ (c4 ++ (c5 ++ (c6))))))).Perm ((c1 ++ (c2 ++ (c3))) ++ (c0 ++ (c4 ++ (c5 ++ (c6))))) := by
  classical
  rw [List.perm_iff_count]
  intro q
  simp only [List.count_append]
  omega
theorem pb_tune {α : Type} (c0 c1 c2 c3 c4 c5 c6 c7 c8 c9 c10 : List α) : ((c0 ++ (c1 ++ (c2))) ++ ((c6 ++ (c7 ++ (c8 ++ (c9 ++ (c10))))) ++ (c3 ++ (c4 ++ (c5))))).Perm (c0 ++ (c1 ++ (c2 ++ (c3 ++ (c4 ++ (c5 ++ (c6 ++ (c7 ++ (c8 ++ (c9 ++ (c10))))))))))) := by
  classical
  rw [List.perm_iff_count]
  intro q
  simp only [List.count_append]
  omega
theorem pb_press {α : Type} (c0 c1 c2 c3 c4 c5 c6 c7 c8 c9 c10 : List α) : ((c0 ++ (c1 ++ (c2 ++ (c4)))) ++ ((c6 ++ (c7 ++ (c8 ++ (c9 ++ (c10))))) ++ (c3 ++ (c5)))).Perm (c0 ++ (c1 ++ (c2 ++ (c3 ++ (c4 ++ (c5 ++ (c6 ++ (c7 ++ (c8 ++ (c9 ++ (c10))))))))))) := by
  classical
  rw [List.perm_iff_count]
  intro q
  simp only [List.count_append]
  omega
theorem pb_touch {α : Type} (c0 c1 c2 c3 c4 c5 c6 c7 c8 c9 c10 : List α) : ((c0 ++ (c1 ++ (c2))) ++ ((c6 ++ (c7 ++ (c8 ++ (c9 ++ (c10))))) ++ (c3 ++ (c4 ++ (c5))))).Perm (c0 ++ (c1 ++ (c2 ++ (c3 ++ (c4 ++ (c5 ++ (c6 ++ (c7 ++ (c8 ++ (c9 ++ (c10))))))))))) := by
  classical
  rw [List.perm_iff_count]
  intro q
  simp only [List.count_append]
  omega
theorem pb_pluck {α : Type} (c0 c1 c2 c3 c4 c5 c6 c7 c8 c9 c10 : List α) : ((c0 ++ (c1 ++ (c2 ++ (c4)))) ++ ((c6 ++ (c7 ++ (c8 ++ (c9 ++ (c10))))) ++ (c3 ++ (c5)))).Perm (c0 ++ (c1 ++ (c2 ++ (c3 ++ (c4 ++ (c5 ++ (c6 ++ (c7 ++ (c8 ++ (c9 ++ (c10))))))))))) := by
  classical
  rw [List.perm_iff_count]
  intro q
  simp only [List.count_append]
  omega
theorem pb_damp {α : Type} (c0 c1 c2 c3 c4 c5 c6 c7 c8 c9 c10 : List α) : ((c0 ++ (c1 ++ (c2))) ++ ((c6 ++ (c7 ++ (c8 ++ (c9 ++ (c10))))) ++ (c3 ++ (c4 ++ (c5))))).Perm (c0 ++ (c1 ++ (c2 ++ (c3 ++ (c4 ++ (c5 ++ (c6 ++ (c7 ++ (c8 ++ (c9 ++ (c10))))))))))) := by
  classical
  rw [List.perm_iff_count]
  intro q
  simp only [List.count_append]
  omega
theorem pb_set {α : Type} (c0 c1 c2 c3 c4 c5 c6 c7 c8 c9 c10 : List α) : ((c0 ++ (c1 ++ (c2))) ++ ((c6 ++ (c7 ++ (c8 ++ (c9 ++ (c10))))) ++ (c3 ++ (c4 ++ (c5))))).Perm (c0 ++ (c1 ++ (c2 ++ (c3 ++ (c4 ++ (c5 ++ (c6 ++ (c7 ++ (c8 ++ (c9 ++ (c10))))))))))) := by
  classical
  rw [List.perm_iff_count]
  intro q
  simp only [List.count_append]
  omega
theorem pb_run {α : Type} (c0 c1 c2 c3 c4 c5 c6 c7 c8 c9 c10 : List α) : ((c0 ++ (c1 ++ (c2))) ++ ((c6 ++ (c7 ++ (c8 ++ (c9 ++ (c10))))) ++ (c3 ++ (c4 ++ (c5))))).Perm (c0 ++ (c1 ++ (c2 ++ (c3 ++ (c4 ++ (c5 ++ (c6 ++ (c7 ++ (c8 ++ (c9 ++ (c10))))))))))) := by
  classical
  rw [List.perm_iff_count]
  intro q
  simp only [List.count_append]
  omega
theorem pb_undo {α : Type} (c0 c1 c2 c3 c4 c5 c6 c7 c8 c9 c10 : List α) : ((c0 ++ (c1 ++ (c2))) ++ ((c6 ++ (c7 ++ (c8 ++ (c9 ++ (c10))))) ++ (c3 ++ (c4 ++ (c5))))).Perm (c0 ++ (c1 ++ (c2 ++ (c3 ++ (c4 ++ (c5 ++ (c6 ++ (c7 ++ (c8 ++ (c9 ++ (c10))))))))))) := by
  classical
  rw [List.perm_iff_count]
  intro q
  simp only [List.count_append]
  omega
theorem pq_4 {α : Type} (c0 c1 c2 c3 c4 c5 c6 c7 c8 c9 c10 : List α) : (c0 ++ (c1 ++ (c2 ++ (c3 ++ (c4 ++ (c5 ++ (c6 ++ (c7 ++ (c8 ++ (c9 ++ (c10))))))))))).Perm ((c6 ++ (c5)) ++ (c0 ++ (c1 ++ (c2 ++ (c3 ++ (c4 ++ (c7 ++ (c8 ++ (c9 ++ (c10)))))))))) := by
  classical
  rw [List.perm_iff_count]
  intro q
  simp only [List.count_append]
  omega
theorem pq_5 {α : Type} (c0 c1 c2 c3 c4 c5 c6 c7 c8 c9 : List α) : (c0 ++ (c1 ++ (c2 ++ (c3 ++ (c4 ++ (c5 ++ (c6 ++ (c7 ++ (c8 ++ (c9)))))))))).Perm ((c1 ++ (c4)) ++ (c0 ++ (c2 ++ (c3 ++ (c5 ++ (c6 ++ (c7 ++ (c8 ++ (c9))))))))) := by
  classical
  rw [List.perm_iff_count]
  intro q
  simp only [List.count_append]
  omega
theorem pb_type {α : Type} (c0 c1 c2 c3 c4 c5 c6 c7 c8 c9 c10 : List α) : ((c0 ++ (c3)) ++ ((c6 ++ (c5)) ++ (c1 ++ (c2 ++ (c4 ++ (c7 ++ (c8 ++ (c9 ++ (c10))))))))).Perm (c0 ++ (c1 ++ (c2 ++ (c3 ++ (c4 ++ (c5 ++ (c6 ++ (c7 ++ (c8 ++ (c9 ++ (c10))))))))))) := by
  classical
  rw [List.perm_iff_count]
  intro q
  simp only [List.count_append]
  omega
theorem pq_6 {α : Type} (c0 c1 c2 c3 c4 c5 c6 c7 c8 c9 : List α) : (c0 ++ (c1 ++ (c2 ++ (c3 ++ (c4 ++ (c5 ++ (c6 ++ (c7 ++ (c8 ++ (c9)))))))))).Perm ((c1) ++ (c0 ++ (c2 ++ (c3 ++ (c4 ++ (c5 ++ (c6 ++ (c7 ++ (c8 ++ (c9)))))))))) := by
  classical
  rw [List.perm_iff_count]
  intro q
  simp only [List.count_append]
  omega
theorem pb_clearText {α : Type} (c0 c1 c2 c3 c4 c5 c6 c7 c8 c9 c10 : List α) : ((c0) ++ ((c6 ++ (c5)) ++ (c1 ++ (c2 ++ (c3 ++ (c4 ++ (c7 ++ (c8 ++ (c9 ++ (c10)))))))))).Perm (c0 ++ (c1 ++ (c2 ++ (c3 ++ (c4 ++ (c5 ++ (c6 ++ (c7 ++ (c8 ++ (c9 ++ (c10))))))))))) := by
  classical
  rw [List.perm_iff_count]
  intro q
  simp only [List.count_append]
  omega
theorem pq_7 {α : Type} (c0 c1 c2 c3 c4 c5 c6 c7 c8 c9 c10 : List α) : (c0 ++ (c1 ++ (c2 ++ (c3 ++ (c4 ++ (c5 ++ (c6 ++ (c7 ++ (c8 ++ (c9 ++ (c10))))))))))).Perm ((c6 ++ (c7 ++ (c5))) ++ (c0 ++ (c1 ++ (c2 ++ (c3 ++ (c4 ++ (c8 ++ (c9 ++ (c10))))))))) := by
  classical
  rw [List.perm_iff_count]
  intro q
  simp only [List.count_append]
  omega
theorem pq_8 {α : Type} (c0 c1 c2 c3 c4 c5 c6 c7 c8 : List α) : (c0 ++ (c1 ++ (c2 ++ (c3 ++ (c4 ++ (c5 ++ (c6 ++ (c7 ++ (c8))))))))).Perm ((c1 ++ (c2 ++ (c4))) ++ (c0 ++ (c3 ++ (c5 ++ (c6 ++ (c7 ++ (c8))))))) := by
  classical
  rw [List.perm_iff_count]
  intro q
  simp only [List.count_append]
  omega
theorem pb_fault {α : Type} (c0 c1 c2 c3 c4 c5 c6 c7 c8 c9 c10 : List α) : ((c0 ++ (c1 ++ (c3))) ++ ((c6 ++ (c7 ++ (c5))) ++ (c2 ++ (c4 ++ (c8 ++ (c9 ++ (c10))))))).Perm (c0 ++ (c1 ++ (c2 ++ (c3 ++ (c4 ++ (c5 ++ (c6 ++ (c7 ++ (c8 ++ (c9 ++ (c10))))))))))) := by
  classical
  rw [List.perm_iff_count]
  intro q
  simp only [List.count_append]
  omega
theorem pq_9 {α : Type} (c0 c1 c2 c3 c4 c5 c6 c7 c8 c9 c10 : List α) : (c0 ++ (c1 ++ (c2 ++ (c3 ++ (c4 ++ (c5 ++ (c6 ++ (c7 ++ (c8 ++ (c9 ++ (c10))))))))))).Perm ((c6 ++ (c5 ++ (c7 ++ (c8 ++ (c9 ++ (c10)))))) ++ (c0 ++ (c1 ++ (c2 ++ (c3 ++ (c4)))))) := by
  classical
  rw [List.perm_iff_count]
  intro q
  simp only [List.count_append]
  omega
theorem pq_10 {α : Type} (c0 c1 c2 c3 c4 c5 : List α) : (c0 ++ (c1 ++ (c2 ++ (c3 ++ (c4 ++ (c5)))))).Perm ((c1 ++ (c2 ++ (c3 ++ (c4 ++ (c5))))) ++ (c0)) := by
  classical
  rw [List.perm_iff_count]
  intro q
  simp only [List.count_append]
  omega
theorem pb_play {α : Type} (c0 c1 c2 c3 c4 c5 c6 c7 c8 c9 c10 : List α) : ((c0 ++ (c1 ++ (c2 ++ (c3 ++ (c4))))) ++ ((c6 ++ (c5 ++ (c7 ++ (c8 ++ (c9 ++ (c10)))))))).Perm (c0 ++ (c1 ++ (c2 ++ (c3 ++ (c4 ++ (c5 ++ (c6 ++ (c7 ++ (c8 ++ (c9 ++ (c10))))))))))) := by
  classical
  rw [List.perm_iff_count]
  intro q
  simp only [List.count_append]
  omega
