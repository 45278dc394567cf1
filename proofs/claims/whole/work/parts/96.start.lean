theorem pq_start {α : Type} (c1 c2 c3 c4 c5 d1 d2 d3 d4 : List α) : ((c1 ++ ((c2 ++ (c3 ++ (d1 ++ d2 ++ d3 ++ d4))) ++ c4)) ++ c5).Perm (c5 ++ (c4 ++ (c1 ++ (c2 ++ (c3 ++ (d1 ++ (d2 ++ (d3 ++ d4)))))))) := by
  classical
  rw [List.perm_iff_count]
  intro q
  simp only [List.count_append]
  omega
theorem zNl_tb : ∀ w ∈ zNl, w ∈ lw_tbl := by decide +kernel
/-- a table that stands in a static field, out of what is given -/
theorem zT_of {b : Nat} {s : State} {n : String} {f : Nat → Nat} (hf : ∀ w ∈ flatC (Jvm.Cond.and given_1 narrow_1), w.before #[Value.ref b] s = true) (h1 : Cond.arrayOf (.static RX6 n "[I") .int ∈ flatC (Jvm.Cond.and given_1 narrow_1)) (h2 : Cond.eq (.length (.static RX6 n "[I")) (.int 5) ∈ flatC (Jvm.Cond.and given_1 narrow_1))
    (h3 : ∀ j, j < 5 → Cond.eq (.elem (.static RX6 n "[I") (.int (Int32.ofNat j))) (.int (nI (f j))) ∈ flatC (Jvm.Cond.and given_1 narrow_1)) (hl : (Cond.laysStatic RX6 n "[I").before #[Value.ref b] s = true) (hi : (Cond.initialized RX6).before #[Value.ref b] s = true) :
    ∃ t : Nat, va_Z RX6 n "[I" (.ref t) (fun q : Nat => s.heap.size ≤ q) s s.heap ∧ va_T .int t 5 (fun j => .int (nI (f j))) (fun q : Nat => s.heap.size ≤ q) s s.heap := by
  have hA : ∀ a : Nat, a < s.heap.size → ¬ (fun q : Nat => s.heap.size ≤ q) a := fun a h q => absurd (show s.heap.size ≤ a from q) (by omega)
  obtain ⟨t, ht, hT⟩ := va_Tof (args := #[Value.ref b]) (tm := .static RX6 n "[I") (ty := .int) (N := 5) (f := fun j => .int (nI (f j))) (by decide) (hf _ h1) (va_eqt (hf _ h2)) (fun j hj => va_eqt (hf _ (h3 j hj))) hA
  exact ⟨t, va_Zof hl hi ht hA, hT⟩
theorem zK_of {s : State} {args : Array Value} (hts : ∀ w ∈ lw_tbl, w.before args s = true) : ∃ E : zE, zG E s ∧ va_AO RX4 s := by
  obtain ⟨k0, i0, h0⟩ := u_known (C := RX0) (T := TX0) (N := 3) (n := 3) hts in_wsX00 (hts (.instantiable RX0 3) (wsL_law_in _ (by decide +kernel)))
  obtain ⟨k1, i1, h1⟩ := u_known (C := RX1) (T := TX1) (N := 4) (n := 4) hts in_wsX10 (hts (.instantiable RX1 4) (wsL_law_in _ (by decide +kernel)))
  obtain ⟨k2, i2, h2⟩ := u_known (C := RX2) (T := TX2) (N := 3) (n := 3) hts in_wsX20 (hts (.instantiable RX2 3) (wsL_law_in _ (by decide +kernel)))
  obtain ⟨k3, i3, h3⟩ := u_known (C := RX3) (T := TX3) (N := 9) (n := 9) hts in_wsX30 (hts (.instantiable RX3 9) (wsL_law_in _ (by decide +kernel)))
  obtain ⟨k4, i4, h4⟩ := u_known (C := RX4) (T := TX4) (N := 6) (n := 6) hts in_wsX40 (hts (.instantiable RX4 6) (wsL_law_in _ (by decide +kernel)))
  obtain ⟨k5, i5, h5⟩ := u_known (C := RX5) (T := TX5) (N := 7) (n := 7) hts in_wsX50 (hts (.instantiable RX5 7) (wsL_law_in _ (by decide +kernel)))
  obtain ⟨k6, i6, h6⟩ := u_known (C := RX6) (T := TX6) (N := 3) (n := 3) hts in_wsX60 (hts (.instantiable RX6 3) (wsL_law_in _ (by decide +kernel)))
  obtain ⟨k7, i7, h7⟩ := u_known (C := RX7) (T := TX7) (N := 13) (n := 13) hts in_wsX70 (hts (.instantiable RX7 13) (wsL_law_in _ (by decide +kernel)))
  obtain ⟨cI, kI, pI, fI, gI, jI⟩ := Cond.arrayClass_spec (hts (.arrayClass .int) (wsL_law_in _ (by decide +kernel)))
  obtain ⟨cC, kC, pC, fC, gC, jC⟩ := Cond.arrayClass_spec (hts (.arrayClass .char) (wsL_law_in _ (by decide +kernel)))
  have hO : va_AO RX4 s := va_AO.of (hts (.arrayOver (.object RX4)) (by decide +kernel))
  obtain ⟨pQ, cQ, kQ, eQ, -, gQ, jQ, fQ⟩ := Cond.arrayOver_spec (args := args) (va_AO.use hO)
  refine ⟨((fun k => match k with | 0 => k0 | 1 => k1 | 2 => k2 | 3 => k3 | 4 => k4 | 5 => k5 | 6 => k6 | _ => k7, fun k => match k with | 0 => i0 | 1 => i1 | 2 => i2 | 3 => i3 | 4 => i4 | 5 => i5 | 6 => i6 | _ => i7), cI, cC, cQ), ⟨⟨?_, ?_⟩, ?_⟩, hO⟩
  · intro k q hq
    match k, hq with
    | 0, hq => cases hq; exact h0
    | 1, hq => cases hq; exact h1
    | 2, hq => cases hq; exact h2
    | 3, hq => cases hq; exact h3
    | 4, hq => cases hq; exact h4
    | 5, hq => cases hq; exact h5
    | 6, hq => cases hq; exact h6
    | 7, hq => cases hq; exact h7
    | k + 8, hq => exact absurd hq (by simp)
  · intro k q hq
    match k, hq with
    | 0, hq => cases hq; exact ⟨fun n z => ⟨fun k h => (by cases h), kI, gI, pI, jI⟩, fI⟩
    | 1, hq => cases hq; exact ⟨fun n z => ⟨fun k h => (by cases h), kC, gC, pC, jC⟩, fC⟩
    | 2, hq => cases hq; exact ⟨fun n z => ⟨fun k h => (by cases h), kQ, gQ, pQ, jQ⟩, kQ, pQ, gQ, jQ, eQ, fQ⟩
    | k + 3, hq => exact absurd hq (by simp)
  · intro w hw
    obtain ⟨a1, a2, a3, a4, rfl⟩ := zNl_nest w hw
    exact va_Nw.of (A := args) rfl (hts _ (zNl_tb _ hw))
set_option maxHeartbeats 8000000 in
set_option maxRecDepth 100000 in
theorem whole_start {p : Program} {e : Env} {s : State} {m : MethodId} {below : List Frame} {meth : Method} {c : Code} (l : Launch) (hflags : l.flags = flags0) {b L : Nat} {xs : Nat → Int32} (hL : L ≤ 2560) (C0 : lw_At p s m meth c b L xs) : W p l e room_1 s m #[Value.ref b] below meth c s.heap [] 0 0 (lw_Z below #[Value.ref b] s) (entryFrame m ([Value.ref b] : List Value).toArray 4) := by
  obtain ⟨hx, hb, hr, hml, hown, htb, hX, hbl, hlocks, hgv⟩ := id C0
  have hts : ∀ w ∈ wsL_law, w.before #[Value.ref b] s = true := fun w h => htb w (wsL_law_in w h)
  have hf := flat_of_before _ hgv
  have hF : CallFix p m c cL_law 4 s #[Value.ref b] wsL_law RL := ⟨hx, hb, hml, hown, hts⟩
  obtain ⟨E, hG, hO⟩ := zK_of htb
  have hini := hts (.initialized RX6) (by decide +kernel)
  obtain ⟨tm, zm, Tm⟩ := zT_of (n := "MOST_OF_SETTING") (f := mstF) hf (by decide +kernel) (by decide +kernel) (fun j hj => by obtain rfl | rfl | rfl | rfl | rfl : j = 0 ∨ j = 1 ∨ j = 2 ∨ j = 3 ∨ j = 4 := (by omega) <;> decide +kernel) (htb (.laysStatic RX6 "MOST_OF_SETTING" "[I") (by decide +kernel)) hini
  obtain ⟨tl, zl, Tl⟩ := zT_of (n := "LEAST_OF_SETTING") (f := lstF) hf (by decide +kernel) (by decide +kernel) (fun j hj => by obtain rfl | rfl | rfl | rfl | rfl : j = 0 ∨ j = 1 ∨ j = 2 ∨ j = 3 ∨ j = 4 := (by omega) <;> decide +kernel) (htb (.laysStatic RX6 "LEAST_OF_SETTING" "[I") (by decide +kernel)) hini
  have hA : ∀ q : Nat, s.heap.size ≤ q → (fun q : Nat => s.heap.size ≤ q) q := fun _ h => h
  have hbA : ¬ (fun q : Nat => s.heap.size ≤ q) b := Nat.not_le.mpr hbl
  have F : LF p s m c b L xs E (fun q : Nat => s.heap.size ≤ q) tm tl := ⟨hF, hG, hX, hbl, hbA, zm, zl, Tm, Tl⟩
  have hS : va_S (fun q : Nat => s.heap.size ≤ q) s.heap s.heap [] := va_S.rf
  have hP : va_P E.1 vwCl [] s.heap := fun k q h => by simp at h
  have hD : va_D (fun q : Nat => s.heap.size ≤ q) [] := ⟨fun i j p q h => by simp at h, fun k q h => by simp at h⟩
  have hl := lv_entry ([.ref b]) (n := 4) (Nat.le_of_ble_eq_true rfl)
  rw [lg_entry_eq]
  generalize (lg_sl ([.ref b]) ++ List.replicate (4 - (lg_sl ([.ref b])).length) Slot.unset).toArray = ls at hl ⊢
  have hl : lv_has ls 4 [(0, .ref b)] := hl
  refine va_new (ci := 6) (fs := [.null, .null, .null]) (C := RX6) (T := TX6) (N := 3) hx hb htb in_wsX60 tyX6 tyX6_ok hown (hts (.classLink RL 7 RX6) (by decide +kernel)) (hts (.instantiable RX6 3) (by decide +kernel)) (hts (.initialized RX6) (by decide +kernel)) hG.1 hP hD hS hA rfl (fun j hj => by rcases (show j = 0 ∨ j = 1 ∨ j = 2 by omega) with rfl | rfl | rfl <;> rfl) (Nat.le_of_ble_eq_true rfl) (Nat.le_of_ble_eq_true rfl) dL_law_0 (fun fs HZ hP hD hS => ?_)
  have hP : va_P E.1 vwCl [(fs, .inr (6, [.null, .null, .null]))] _ := hP
  have hD : va_D _ [(fs, .inr (6, [.null, .null, .null]))] := hD
  refine lv_dup hx hb dL_law_3 rfl ?_
  refine z_ctor (wr := []) rfl (va_runI (As := []) (rest := [.ref fs]) hF (c_X6_init l E fs HZ.size) (cwI 0 hts gL_law_X6_init rfl rfl rfl (hts (.initialized RX6) (by decide +kernel)) (hts (.methodLink RL 9 yX6_init) (by decide +kernel)) (hts (.instanceMethod yX6_init) (by decide +kernel)) rfl (by decide +kernel) ⟨Nat.le_of_ble_eq_true rfl, Nat.le_of_ble_eq_true rfl⟩) (z_preN (zP_mem (w := [(fs, .inr (6, [.null, .null, .null]))]) (fun q9 h9 => by rw [List.mem_singleton] at h9; subst h9; simp) hP) hG hO) rfl rfl hl.1 rfl (lv_room (Nat.le_of_ble_eq_true rfl)) dL_law_4 ⟨Nat.le_of_ble_eq_true rfl, Nat.le_of_ble_eq_true rfl⟩) hP hD hS hA (fun w' HZ locsZ hw hP hD hS => ?_)
  obtain ⟨sc, hi, ch, rw, ad, adA, adB, adC, adD, rfl⟩ := hw
  refine lv_astore_n (lv' := [(1, .ref fs), (0, .ref b)]) hx hb dL_law_7 rfl hl (by decide) rfl (fun ls hl => ?_)
  have hP : va_P E.1 vwCl ((fs, .inr (6, [.ref (ad 0), .ref hi, .ref sc])) :: (stW E ad iX ++ ((hi, .inr (0, [.int (nI 0), .int (nI 0), .ref rw])) :: (rw, .inl (E.2.2.2, 4, .inr (.inr (.inr (.inr (rr4 (adA 0) (adB 0) (adC 0) (adD 0))))))) :: (stW E adA iX ++ stW E adB iX ++ stW E adC iX ++ stW E adD iX)) ++ [(sc, .inr (3, [.int (nI 0), .ref ch, .int (nI 0), .int (nI 0), .int (nI 0), .int (nI 0), .int (nI 0), .int (nI 0), .int (nI 0)])), (ch, .inl (E.2.2.1, 80, .inl (fun zz => nI (c0 zz))))])) _ := hP
  have hD : va_D _ ((fs, .inr (6, [.ref (ad 0), .ref hi, .ref sc])) :: (stW E ad iX ++ ((hi, .inr (0, [.int (nI 0), .int (nI 0), .ref rw])) :: (rw, .inl (E.2.2.2, 4, .inr (.inr (.inr (.inr (rr4 (adA 0) (adB 0) (adC 0) (adD 0))))))) :: (stW E adA iX ++ stW E adB iX ++ stW E adC iX ++ stW E adD iX)) ++ [(sc, .inr (3, [.int (nI 0), .ref ch, .int (nI 0), .int (nI 0), .int (nI 0), .int (nI 0), .int (nI 0), .int (nI 0), .int (nI 0)])), (ch, .inl (E.2.2.1, 80, .inl (fun zz => nI (c0 zz))))])) := hD
  refine va_new (ci := 7) (fs := [.null, .null, .int (nI 0), .null, .int (nI 0), .null, .int (nI 0), .int (nI 0), .int (nI 0), .int (nI 0), .int (nI 0), .int (nI 0), .int (nI 0)]) (C := RX7) (T := TX7) (N := 13) hx hb htb in_wsX70 tyX7 tyX7_ok hown (hts (.classLink RL 10 RX7) (by decide +kernel)) (hts (.instantiable RX7 13) (by decide +kernel)) (hts (.initialized RX7) (by decide +kernel)) hG.1 hP hD hS hA rfl (fun j hj => by rcases (show j = 0 ∨ j = 1 ∨ j = 2 ∨ j = 3 ∨ j = 4 ∨ j = 5 ∨ j = 6 ∨ j = 7 ∨ j = 8 ∨ j = 9 ∨ j = 10 ∨ j = 11 ∨ j = 12 by omega) with rfl | rfl | rfl | rfl | rfl | rfl | rfl | rfl | rfl | rfl | rfl | rfl | rfl <;> rfl) (Nat.le_of_ble_eq_true rfl) (Nat.le_of_ble_eq_true rfl) dL_law_8 (fun x HZ hP hD hS => ?_)
  refine lv_dup hx hb dL_law_11 rfl ?_
  refine z_ctor (wr := ((fs, .inr (6, [.ref (ad 0), .ref hi, .ref sc])) :: (stW E ad iX ++ ((hi, .inr (0, [.int (nI 0), .int (nI 0), .ref rw])) :: (rw, .inl (E.2.2.2, 4, .inr (.inr (.inr (.inr (rr4 (adA 0) (adB 0) (adC 0) (adD 0))))))) :: (stW E adA iX ++ stW E adB iX ++ stW E adC iX ++ stW E adD iX)) ++ [(sc, .inr (3, [.int (nI 0), .ref ch, .int (nI 0), .int (nI 0), .int (nI 0), .int (nI 0), .int (nI 0), .int (nI 0), .int (nI 0)])), (ch, .inl (E.2.2.1, 80, .inl (fun zz => nI (c0 zz))))]))) rfl (va_runI (As := []) (rest := [.ref x]) hF (c_X7_init l E x HZ.size) (cwI 0 hts gL_law_X7_init rfl rfl rfl (hts (.initialized RX7) (by decide +kernel)) (hts (.methodLink RL 12 yX7_init) (by decide +kernel)) (hts (.instanceMethod yX7_init) (by decide +kernel)) rfl (by decide +kernel) ⟨Nat.le_of_ble_eq_true rfl, Nat.le_of_ble_eq_true rfl⟩) (z_preN (zP_mem (w := [(x, .inr (7, [.null, .null, .int (nI 0), .null, .int (nI 0), .null, .int (nI 0), .int (nI 0), .int (nI 0), .int (nI 0), .int (nI 0), .int (nI 0), .int (nI 0)]))]) (fun q9 h9 => by rw [List.mem_singleton] at h9; subst h9; simp) hP) hG hO) rfl rfl hl.1 rfl (lv_room (Nat.le_of_ble_eq_true rfl)) dL_law_12 ⟨Nat.le_of_ble_eq_true rfl, Nat.le_of_ble_eq_true rfl⟩) hP hD hS hA (fun w' HZ locsZ hw hP hD hS => ?_)
  obtain ⟨ms, mp, mt, md, rfl⟩ := hw
  refine lv_astore_n (lv' := [(2, .ref x), (1, .ref fs), (0, .ref b)]) hx hb dL_law_15 rfl hl (by decide) rfl (fun ls hl => ?_)
  refine lv_iconst (v := nI 0) hx hb dL_law_16 (by decide) ?_
  refine lv_istore_n (lv' := [(3, .int (nI 0)), (2, .ref x), (1, .ref fs), (0, .ref b)]) hx hb dL_law_17 rfl hl (by decide) rfl (fun ls hl => ?_)
  have hp9 := (pq_start (α := Nat × va_E) [(fs, .inr (6, [.ref (ad 0), .ref hi, .ref sc]))] (stW E ad iX) [(hi, .inr (0, [.int (nI 0), .int (nI 0), .ref rw])), (rw, .inl (E.2.2.2, 4, .inr (.inr (.inr (.inr (rr4 (adA 0) (adB 0) (adC 0) (adD 0)))))))] [(sc, .inr (3, [.int (nI 0), .ref ch, .int (nI 0), .int (nI 0), .int (nI 0), .int (nI 0), .int (nI 0), .int (nI 0), .int (nI 0)])), (ch, .inl (E.2.2.1, 80, .inl (fun zz => nI (c0 zz))))] [(x, .inr (7, [.ref ms, .ref mp, .int (nI 0), .ref mt, .int (nI 0), .ref md, .int (nI 0), .int (nI 0), .int (nI 0), .int (nI 0), .int (nI 0), .int (nI 0), .int (nI 0)])), (ms, .inl (E.2.1, 265, .inl (fun zz => nI (iM zz)))), (mp, .inl (E.2.1, 1060, .inl (fun zz => nI (c0 zz)))), (mt, .inl (E.2.1, 80, .inl (fun zz => nI (c0 zz)))), (md, .inl (E.2.1, 4, .inl (fun zz => nI (c0 zz))))] (stW E adA iX) (stW E adB iX) (stW E adC iX) (stW E adD iX))
  have hP := zP_perm hp9 hP
  have hD := zD_perm hp9 hD
  have inv : LInv s (fun q : Nat => s.heap.size ≤ q) E fs sc hi ch rw x ms mp mt md ad adA adB adC adD 0 HZ _ := ⟨0, 0, 0, 0, 0, 0, 0, iX, iX, iX, iX, iX, nI 0, nI 0, nI 0, nI 0, nI 0, nI 0, nI 0, nI 0, nI 0, nI 0, c0, iM, c0, c0, hP, hD, hS, SR_init, MJ_init, fun k hk => absurd hk (by omega), by omega, by omega, by omega, fun i hi => Nat.zero_le _⟩
  exact law_loop l F hL hr hlocks (fun q h => h) (L - 5 * 0 + 1) 0 (Nat.lt_succ_self _) (by omega) _ _ _ inv (lv_sub hl [3, 2, 1, 0] rfl)
