/-! THE CLAIM OUT OF ONE WALK OF THE LAW'S BODY. Your part is whole_start (and what it stands on); all else here is the same for every law, but numbers. -/
def R_law : String := "FrettedStringsLaw"
def lw_P (b : Addr) (xs : List Int32) (args : Array Value) (s : State) : Prop := args = #[.ref b] ∧ s.IntsAt b xs ∧ xs.length ≤ 260 ∧ (Jvm.Cond.and given_1 narrow_1).before args s = true
def lw_Q (_ : Array Value) (s : State) (o : Outcome) (t : State) : Prop := o = .returned (some (.int 1)) ∧ Framed s o t [] 600000 7302249
def lw_Z (below : List Frame) (a : Array Value) (s : State) : State → Prop := fun t => ∃ o, t.status = .running ∧ Ended t below o ∧ lw_Q a s o t
/-- the law's own end, with 1 on the stack, nothing written that was there before, its room as the claim has it -/
theorem lw_ret {p : Program} {l : Launch} {e : Env} {s : State} {m : MethodId} {below : List Frame} {meth : Method} {c : Code} {b : Nat} (hx : p.tables.exec = Jvm.exec) (hb : c.code = code) (hr : meth.sig.returnType = ret) (hlocks : meth.locks = false) {pc : Nat} {H : Heap} {ls : Array Slot} (hdg : decode code pc = .ok (.ireturn, 1)) : W p l e room_1 s m #[Value.ref b] below meth c H [] 600000 7302249 (lw_Z below #[Value.ref b] s) (F0 m pc ls [.int 1]) := by
  intro T hT X
  obtain ⟨fs, hret, hrun, hended, hW, hframe⟩ := X.leave (v := some (.int 1)) (hlocks := hlocks) (fun h => by rw [hr] at h; cases h)
  have hmeth' : T.vm.method? m = some meth := X.method'
  refine ⟨T.setFrames fs, ?_, .returned (some (.int 1)), hrun, hended, rfl, ⟨_, rfl⟩, hW, hframe⟩
  jvm_step X.here [X.here.top, hx, hb, hdg, hmeth', hr, ret, narrow_b1]
  (try refine ⟨rfl, ?_⟩); (try refine ⟨rfl, ?_⟩)
  first | (intro acts; rw [hret _ acts rfl rfl rfl]) | rw [hret _ _ rfl rfl rfl]
  exact Steps.refl _
/-- what holds at the law's entry: the machine, the code, the tables' words (any of lw_tbl by 'hts w (by decide +kernel)'), the script of L ints xs at the cell b, what the Statement gives of the start (any of its parts by flat_of_before) -/
def lw_At (p : Program) (s : State) (m : MethodId) (meth : Method) (c : Code) (b L : Nat) (xs : Nat → Int32) : Prop :=
  p.tables.exec = Jvm.exec ∧ c.code = code ∧ meth.sig.returnType = ret ∧ c.maxLocals = 9 ∧ s.vm.findClass R_law = some m.cls ∧ (∀ w ∈ lw_tbl, w.before #[Value.ref b] s = true) ∧ va_X b L xs s s.heap ∧ b < s.heap.size ∧ meth.locks = false ∧ (Jvm.Cond.and given_1 narrow_1).before #[Value.ref b] s = true
theorem zNl_tb : ∀ w ∈ zNl, w ∈ lw_tbl := by decide +kernel
/-- a table that stands in a static field, out of what is given -/
theorem zT_of {b : Nat} {s : State} {n : String} {f : Nat → Nat} (hf : ∀ w ∈ flatC (Jvm.Cond.and given_1 narrow_1), w.before #[Value.ref b] s = true) (h1 : Cond.arrayOf (.static RX6 n "[I") .int ∈ flatC (Jvm.Cond.and given_1 narrow_1)) (h2 : Cond.eq (.length (.static RX6 n "[I")) (.int 5) ∈ flatC (Jvm.Cond.and given_1 narrow_1))
    (h3 : ∀ j, j < 5 → Cond.eq (.elem (.static RX6 n "[I") (.int (Int32.ofNat j))) (.int (nI (f j))) ∈ flatC (Jvm.Cond.and given_1 narrow_1)) (hl : (Cond.laysStatic RX6 n "[I").before #[Value.ref b] s = true) (hi : (Cond.initialized RX6).before #[Value.ref b] s = true) :
    ∃ t : Nat, va_Z RX6 n "[I" (.ref t) (fun q : Nat => s.heap.size ≤ q) s s.heap ∧ va_T .int t 5 (fun j => .int (nI (f j))) (fun q : Nat => s.heap.size ≤ q) s s.heap := by
  have hA : ∀ a : Nat, a < s.heap.size → ¬ (fun q : Nat => s.heap.size ≤ q) a := fun a h q => absurd (show s.heap.size ≤ a from q) (by omega)
  obtain ⟨t, ht, hT⟩ := va_Tof (args := #[Value.ref b]) (tm := .static RX6 n "[I") (ty := .int) (N := 5) (f := fun j => .int (nI (f j))) (by decide) (hf _ h1) (va_eqt (hf _ h2)) (fun j hj => va_eqt (hf _ (h3 j hj))) hA
  exact ⟨t, va_Zof hl hi ht hA, hT⟩
theorem zK_of {s : State} {args : Array Value} (hts : ∀ w ∈ lw_tbl, w.before args s = true) : ∃ E : zE, zG E s ∧ va_AO RX4 s := by
  obtain ⟨k0, i0, h0⟩ := u_known (C := RX0) (T := TX0) (N := 3) (n := 3) hts in_wsX00 (hts (.instantiable RX0 3) (wsL_law_in _ (by decide +kernel)))
  obtain ⟨k1, i1, h1⟩ := u_known (C := RX1) (T := TX1) (N := 4) (n := 4) hts in_wsX10 (hts (.instantiable RX1 4) (wsL_law_in _ (by decide +kernel)))
  obtain ⟨k2, i2, h2⟩ := u_known (C := RX2) (T := TX2) (N := 3) (n := 3) hts in_wsX20 (hts (.instantiable RX2 3) (wsL_law_in _ (by decide +kernel)))
  obtain ⟨k3, i3, h3⟩ := u_known (C := RX3) (T := TX3) (N := 9) (n := 9) hts in_wsX30 (hts (.instantiable RX3 9) (wsL_law_in _ (by decide +kernel)))
  obtain ⟨k4, i4, h4⟩ := u_known (C := RX4) (T := TX4) (N := 6) (n := 6) hts in_wsX40 (hts (.instantiable RX4 6) (wsL_law_in _ (by decide +kernel)))
  obtain ⟨k5, i5, h5⟩ := u_known (C := RX5) (T := TX5) (N := 7) (n := 7) hts in_wsX50 (hts (.instantiable RX5 7) (wsL_law_in _ (by decide +kernel)))
  obtain ⟨k6, i6, h6⟩ := u_known (C := RX6) (T := TX6) (N := 3) (n := 3) hts in_wsX60 (hts (.instantiable RX6 3) (wsL_law_in _ (by decide +kernel)))
  obtain ⟨cI, kI, pI, fI, gI, jI⟩ := Cond.arrayClass_spec (hts (.arrayClass .int) (wsL_law_in _ (by decide +kernel)))
  obtain ⟨cC, kC, pC, fC, gC, jC⟩ := Cond.arrayClass_spec (hts (.arrayClass .char) (wsL_law_in _ (by decide +kernel)))
  have hO : va_AO RX4 s := va_AO.of (hts (.arrayOver (.object RX4)) (by decide +kernel))
  obtain ⟨pQ, cQ, kQ, eQ, -, gQ, jQ, fQ⟩ := Cond.arrayOver_spec (args := args) (va_AO.use hO)
  refine ⟨((fun k => match k with | 0 => k0 | 1 => k1 | 2 => k2 | 3 => k3 | 4 => k4 | 5 => k5 | _ => k6, fun k => match k with | 0 => i0 | 1 => i1 | 2 => i2 | 3 => i3 | 4 => i4 | 5 => i5 | _ => i6), cI, cC, cQ), ⟨⟨?_, ?_⟩, ?_⟩, hO⟩
  · intro k q hq
    match k, hq with
    | 0, hq => cases hq; exact h0
    | 1, hq => cases hq; exact h1
    | 2, hq => cases hq; exact h2
    | 3, hq => cases hq; exact h3
    | 4, hq => cases hq; exact h4
    | 5, hq => cases hq; exact h5
    | 6, hq => cases hq; exact h6
    | k + 7, hq => exact absurd hq (by simp)
  · intro k q hq
    match k, hq with
    | 0, hq => cases hq; exact ⟨fun n z => ⟨fun k h => (by cases h), kI, gI, pI, jI⟩, fI⟩
    | 1, hq => cases hq; exact ⟨fun n z => ⟨fun k h => (by cases h), kC, gC, pC, jC⟩, fC⟩
    | 2, hq => cases hq; exact ⟨fun n z => ⟨fun k h => (by cases h), kQ, gQ, pQ, jQ⟩, kQ, pQ, gQ, jQ, eQ, fQ⟩
    | k + 3, hq => exact absurd hq (by simp)
  · intro w hw
    obtain ⟨a1, a2, a3, a4, rfl⟩ := zNl_nest w hw
    exact va_Nw.of (A := args) rfl (hts _ (zNl_tb _ hw))
theorem w_new {p : Program} {l : Launch} {e : Env} {R : Room} {s : State} {m : MethodId} {args : Array Value} {below : List Frame} {meth : Method} {c : Code} {H : Heap} {locs : List Loc} {cells slots : Nat} {Q : State → Prop} {cc : ByteArray} {rest : List Value} {pc : Nat} {ls : Array Slot} {E : zE} {D A : Nat → Prop} {fs : Nat} {o : oS}
    (hx : p.tables.exec = Jvm.exec) (hb : c.code = cc) (harr : (Cond.arrayClass .long).before args s = true) (hG : zG E s) (hO : HO E D fs o H) (hS : va_S A s.heap H locs) (hA : ∀ q : Nat, s.heap.size ≤ q → A q) (hDl : ∀ q, D q → q < H.size) (hcells : cells + 1 ≤ R.cells) (hslots : slots + 32 ≤ R.slots) (hdg : decode cc pc = .ok (.newarray .long, 2))
    (kk : ∀ (cA : ClassId) (wa : Nat) (H1 : Heap), va_K E.1 vwCl (zT E ++ [(cA, .long)]) s → ¬ D wa → A wa → HO E D fs o H1 → va_at E.1 vwCl (wa, .inl (cA, 32, .inr (.inl (fun _ => 0)))) H1 → va_S A s.heap H1 locs → W p l e R s m args below meth c H1 locs (cells + 1) (slots + 32) Q (F0 m (pc + 2) ls (.ref wa :: rest))) : W p l e R s m args below meth c H locs cells slots Q (F0 m pc ls (.int (nI 32) :: rest)) := by
  refine va_newaK (atype := .long) (N := 32) hx hb harr rfl hdg rfl (nI_pos (by omega)) (nI_clamp (by omega)) (Nat.le_of_ble_eq_true rfl) hcells hslots rfl fun H1 cA e1 z1 o1 hAr hNm => ?_
  refine kk cA H.size H1 ⟨hG.1.1, fun k x hx => ?_⟩ (fun h9 => absurd (hDl _ h9) (Nat.lt_irrefl _)) (hA _ hS.1) (HO_kept hO (fun q hq => o1 q (hDl q hq))) ?_ ⟨Nat.le_trans hS.1 (by rw [z1]; exact Nat.le_succ _), fun x h1 h2 => (o1 x (Nat.lt_of_lt_of_le h1 hS.1)).trans (hS.2.1 x h1 h2), hS.2.2⟩
  · by_cases hl : k < (zT E).length
    · rw [List.getElem?_append_left hl] at hx
      exact hG.1.2 k x hx
    · rw [List.getElem?_append_right (by omega)] at hx
      have hz : k - (zT E).length < 1 := (List.getElem?_eq_some_iff.mp hx).1
      rw [show k - (zT E).length = 0 by omega] at hx
      cases hx
      exact ⟨hAr, hNm⟩
  · show H1[H.size]? = some (vp_cell _ _)
    exact e1
set_option maxHeartbeats 16000000 in
set_option maxRecDepth 100000 in
theorem whole_start {p : Program} {e : Env} {s : State} {m : MethodId} {below : List Frame} {meth : Method} {c : Code} (l : Launch) (hflags : l.flags = flags0) {b L : Nat} {xs : Nat → Int32} (hL : L ≤ 260) (C0 : lw_At p s m meth c b L xs) : W p l e room_1 s m #[Value.ref b] below meth c s.heap [] 0 0 (lw_Z below #[Value.ref b] s) (entryFrame m ([Value.ref b] : List Value).toArray 9) := by
  obtain ⟨hx, hb, hr, hml, hown, htb, hX, hbl, hlocks, hgv⟩ := id C0
  have hts : ∀ w ∈ wsL_law, w.before #[Value.ref b] s = true := fun w h => htb w (wsL_law_in w h)
  have hf := flat_of_before _ hgv
  have hF : CallFix p m c cL_law 9 s #[Value.ref b] wsL_law RL := ⟨hx, hb, hml, hown, hts⟩
  obtain ⟨E, hG, hAO⟩ := zK_of htb
  have hini := hts (.initialized RX6) (by decide +kernel)
  obtain ⟨tm, zm, Tm⟩ := zT_of (n := "MOST_OF_SETTING") (f := mstF) hf (by decide +kernel) (by decide +kernel) (fun j hj => by obtain rfl | rfl | rfl | rfl | rfl : j = 0 ∨ j = 1 ∨ j = 2 ∨ j = 3 ∨ j = 4 := (by omega) <;> decide +kernel) (htb (.laysStatic RX6 "MOST_OF_SETTING" "[I") (by decide +kernel)) hini
  obtain ⟨tl, zl, Tl⟩ := zT_of (n := "LEAST_OF_SETTING") (f := lstF) hf (by decide +kernel) (by decide +kernel) (fun j hj => by obtain rfl | rfl | rfl | rfl | rfl : j = 0 ∨ j = 1 ∨ j = 2 ∨ j = 3 ∨ j = 4 := (by omega) <;> decide +kernel) (htb (.laysStatic RX6 "LEAST_OF_SETTING" "[I") (by decide +kernel)) hini
  have hZ : zST tm tl (fun q : Nat => s.heap.size ≤ q) s s.heap := ⟨zm, zl, Tm, Tl⟩
  have hA : ∀ q : Nat, s.heap.size ≤ q → (fun q : Nat => s.heap.size ≤ q) q := fun _ h => h
  have hbA : ¬ (fun q : Nat => s.heap.size ≤ q) b := Nat.not_le.mpr hbl
  have hS : va_S (fun q : Nat => s.heap.size ≤ q) s.heap s.heap [] := va_S.rf
  have fin : ∀ (H : Heap) (locs : List Loc) (ls : Array Slot) (pc : Nat), va_S (fun q : Nat => s.heap.size ≤ q) s.heap H locs → decode cL_law pc = .ok (.ireturn, 1) → W p l e room_1 s m #[Value.ref b] below meth c H locs 271 3884 (lw_Z below #[Value.ref b] s) (F0 m pc ls [.int (nI 1)]) := fun H locs ls pc hS hdg => va_forget (fun q hq => hS.2.2 q hq) (W.widen (k := 600000) (n := 7302249) (Nat.le_of_ble_eq_true rfl) (Nat.le_of_ble_eq_true rfl) (lw_ret hx hb hr hlocks hdg))
  have hl := lv_entry ([.ref b]) (n := 9) (Nat.le_of_ble_eq_true rfl)
  rw [lg_entry_eq]
  generalize (lg_sl ([.ref b]) ++ List.replicate (9 - (lg_sl ([.ref b])).length) Slot.unset).toArray = ls at hl ⊢
  have hl : lv_has ls 9 [(0, .ref b)] := hl
  refine n_call hF (c_L_texts l E tm tl) (cwS 0 hts gL_law_L_texts rfl rfl rfl (by decide +kernel) ⟨Nat.le_of_ble_eq_true rfl, Nat.le_of_ble_eq_true rfl⟩) hG hAO hZ hS hl.1 (lv_room (Nat.le_of_ble_eq_true rfl)) dL_law_0 ⟨Nat.le_of_ble_eq_true rfl, Nat.le_of_ble_eq_true rfl⟩ (fun HZ locsZ hS => ?_)
  refine lv_if_eq (tgt := 12) hx hb dL_law_3 (by decide) (fun c9 => absurd c9 (by decide)) (fun _ => ?_)
  refine n_call hF (c_L_known l E tm tl) (cwS 0 hts gL_law_L_known rfl rfl rfl (by decide +kernel) ⟨Nat.le_of_ble_eq_true rfl, Nat.le_of_ble_eq_true rfl⟩) hG hAO hZ hS hl.1 (lv_room (Nat.le_of_ble_eq_true rfl)) dL_law_6 ⟨Nat.le_of_ble_eq_true rfl, Nat.le_of_ble_eq_true rfl⟩ (fun HZ locsZ hS => ?_)
  refine lv_if_ne (tgt := 14) hx hb dL_law_9 (by decide) (fun _ => ?_) (fun c9 => absurd c9 (by decide))
  have hP : va_P E.1 vwCl [] HZ := zP_nil
  have hD : va_D (fun q : Nat => s.heap.size ≤ q) [] := ⟨fun i j p q h => by simp at h, fun k q h => by simp at h⟩
  refine va_new (ci := 6) (fs := [.null, .null, .null]) (C := RX6) (T := TX6) (N := 3) hx hb htb in_wsX60 tyX6 tyX6_ok hown (hts (.classLink RL 14 RX6) (by decide +kernel)) (hts (.instantiable RX6 3) (by decide +kernel)) (hts (.initialized RX6) (by decide +kernel)) hG.1 hP hD hS hA rfl (fun j hj => by rcases (show j = 0 ∨ j = 1 ∨ j = 2 by omega) with rfl | rfl | rfl <;> rfl) (Nat.le_of_ble_eq_true rfl) (Nat.le_of_ble_eq_true rfl) dL_law_14 (fun fs HZ hP hD hS => ?_)
  have hP : va_P E.1 vwCl [(fs, .inr (6, [.null, .null, .null]))] _ := hP
  have hD : va_D (fun q : Nat => s.heap.size ≤ q) [(fs, .inr (6, [.null, .null, .null]))] := hD
  refine lv_dup hx hb dL_law_17 rfl ?_
  refine z_ctor (wr := []) rfl (va_runI (As := []) (rest := [.ref fs]) hF (c_X6_init l E fs HZ.size) (cwI 0 hts gL_law_X6_init rfl rfl rfl (hts (.initialized RX6) (by decide +kernel)) (hts (.methodLink RL 112 yX6_init) (by decide +kernel)) (hts (.instanceMethod yX6_init) (by decide +kernel)) rfl (by decide +kernel) ⟨Nat.le_of_ble_eq_true rfl, Nat.le_of_ble_eq_true rfl⟩) (z_preN hP hG hAO) rfl rfl hl.1 rfl (lv_room (Nat.le_of_ble_eq_true rfl)) dL_law_18 ⟨Nat.le_of_ble_eq_true rfl, Nat.le_of_ble_eq_true rfl⟩) hP hD hS hA (fun w9 HZ locsZ hw hP hD hS => ?_)
  obtain ⟨sc, hi, ch, rw, ad, adA, adB, adC, adD, rfl⟩ := hw
  rw [List.nil_append, oW_new] at hP hD
  have hO := HO_new hP (zD_self (hD.weaken (fun _ _ _ _ => trivial)))
  have hDA : ∀ q, zAd (oK E fs sc hi rw ad adA adB adC adD 0 0 iX iX iX iX iX ++ oT E sc ch 0 0 0 (nI 0) (nI 0) (nI 0) (nI 0) (nI 0) c0) q → (fun q : Nat => s.heap.size ≤ q) q := fun q ⟨k, e9, hk⟩ => hD.2 k _ hk
  have hDl : ∀ q, zAd (oK E fs sc hi rw ad adA adB adC adD 0 0 iX iX iX iX iX ++ oT E sc ch 0 0 0 (nI 0) (nI 0) (nI 0) (nI 0) (nI 0) c0) q → q < HZ.size := fun q ⟨k, e9, hk⟩ => (hP k _ hk).lt
  generalize zAd (oK E fs sc hi rw ad adA adB adC adD 0 0 iX iX iX iX iX ++ oT E sc ch 0 0 0 (nI 0) (nI 0) (nI 0) (nI 0) (nI 0) c0) = D at hO hDA hDl
  have T1 : ∀ (X : Nat → Nat → Nat) (hq : List (Nat → Nat → Nat)), FI X 12 → hq.length = 4 → ∀ (HZ : Heap) (locsZ : List Loc) (ls : Array Slot), HO E D fs (X, hq, 0, c0) HZ → (∀ q, D q → q < HZ.size) → va_S (fun q : Nat => s.heap.size ≤ q) s.heap HZ locsZ → lv_has ls 9 [(0, .ref b), (1, .ref fs), (2, .int (nI 12))] → W p l e room_1 s m #[Value.ref b] below meth c HZ locsZ 270 3852 (lw_Z below #[Value.ref b] s) (F0 m 89 ls []) := by
    intro X hq hI hln HZ locsZ ls hO hDl hS hl
    have hn12 : X 13 0 = 12 := hI.2.1
    have xb : XB X := GI_XB hI.1 (by omega)
    have hpos : ∀ i, i < 12 → 150 ≤ X 0 i := fun i hi => (hI.2.2.1 i hi).1
    refine lv_aload_n hx hb dL_law_89 rfl (lv_at hl 1 rfl) ?_
    refine lv_iconst (v := nI 1) hx hb dL_law_90 (by decide) ?_
    refine lv_iconst (v := nI 0) hx hb dL_law_91 (by decide) ?_
    refine o_call (o := (X, hq, 0, c0)) (As := [.int (nI 1), .int (nI 0)]) (rest := []) hF (U_fret_l l E tm tl D fs (X, hq, 0, c0) xb 1 0 (by omega) (by omega) (by omega) (fun i hi => by have h8 : i < X 13 0 := hi; have := hpos i (by omega); show X 0 i ≠ 1; omega) hn12) (cwV 2 hts gL_law_X6_fret rfl rfl rfl (by decide +kernel) ⟨Nat.le_of_ble_eq_true rfl, Nat.le_of_ble_eq_true rfl⟩) hG hZ hDA hO hS rfl hl.1 rfl (lv_room (Nat.le_of_ble_eq_true rfl)) dL_law_92 ⟨Nat.le_of_ble_eq_true rfl, Nat.le_of_ble_eq_true rfl⟩ (fun r9 o9 HZ locsZ hp hO hS hsz9 hfr9 => ?_)
    obtain ⟨rfl, rfl⟩ := hp
    have hDl := fun q h9 => Nat.lt_of_lt_of_le (hDl q h9) hsz9
    refine lv_bipush (v := (-3)) hx hb dL_law_95 (by decide) ?_
    refine lv_icmp_ne (tgt := 133) hx hb dL_law_97 (by decide) (fun c9 => absurd c9 (by decide)) (fun _ => ?_)
    refine lv_aload_n hx hb dL_law_100 rfl (lv_at hl 1 rfl) ?_
    refine lv_iconst (v := nI 0) hx hb dL_law_101 (by decide) ?_
    refine lv_iconst (v := nI 0) hx hb dL_law_102 (by decide) ?_
    refine o_call (o := (X, hq, 0, c0)) (As := [.int (nI 0), .int (nI 0)]) (rest := []) hF (U_fret_i l E tm tl D fs (X, hq, 0, c0) xb (nI 0) (nI 0) (fun h => absurd h.1 (by decide +kernel))) (cwV 2 hts gL_law_X6_fret rfl rfl rfl (by decide +kernel) ⟨Nat.le_of_ble_eq_true rfl, Nat.le_of_ble_eq_true rfl⟩) hG hZ hDA hO hS rfl hl.1 rfl (lv_room (Nat.le_of_ble_eq_true rfl)) dL_law_103 ⟨Nat.le_of_ble_eq_true rfl, Nat.le_of_ble_eq_true rfl⟩ (fun r9 o9 HZ locsZ hp hO hS hsz9 hfr9 => ?_)
    obtain ⟨rfl, rfl⟩ := hp
    have hDl := fun q h9 => Nat.lt_of_lt_of_le (hDl q h9) hsz9
    refine lv_iconst (v := (-1)) hx hb dL_law_106 (by decide) ?_
    refine lv_icmp_ne (tgt := 133) hx hb dL_law_107 (by decide) (fun c9 => absurd c9 (by decide)) (fun _ => ?_)
    refine lv_aload_n hx hb dL_law_110 rfl (lv_at hl 1 rfl) ?_
    refine lv_aload_n hx hb dL_law_111 rfl (lv_at hl 1 rfl) ?_
    refine lv_iconst (v := nI 5) hx hb dL_law_112 (by decide) ?_
    refine lv_iconst (v := nI 0) hx hb dL_law_113 (by decide) ?_
    refine o_call (o := (X, hq, 0, c0)) (As := [.int (nI 5), .int (nI 0)]) (rest := [.ref fs]) hF (U_fretInfo_y l E tm tl D fs (X, hq, 0, c0) xb 5 0 (by omega) (by show 5 ≤ X 13 0; omega) (by omega)) (cwV 2 hts gL_law_X6_fretInfo rfl rfl rfl (by decide +kernel) ⟨Nat.le_of_ble_eq_true rfl, Nat.le_of_ble_eq_true rfl⟩) hG hZ hDA hO hS rfl hl.1 rfl (lv_room (Nat.le_of_ble_eq_true rfl)) dL_law_114 ⟨Nat.le_of_ble_eq_true rfl, Nat.le_of_ble_eq_true rfl⟩ (fun r9 o9 HZ locsZ hp hO hS hsz9 hfr9 => ?_)
    obtain ⟨er, rfl⟩ := hp
    have hDl := fun q h9 => Nat.lt_of_lt_of_le (hDl q h9) hsz9
    obtain rfl : r9 = nI (X 0 4) := er
    refine lv_iconst (v := nI 0) hx hb dL_law_117 (by decide) ?_
    have hq4 := xb.2.1 4 (by omega)
    have hq5 := hpos 4 (by omega)
    refine o_call (o := (X, hq, 0, c0)) (As := [.int (nI (X 0 4)), .int (nI 0)]) (rest := []) hF (U_fret_p l E tm tl D fs (X, hq, 0, c0) xb (X 0 4) 0 (by omega) hq4 (by omega) ⟨4, by show 4 < X 13 0; omega, rfl⟩) (cwV 2 hts gL_law_X6_fret rfl rfl rfl (by decide +kernel) ⟨Nat.le_of_ble_eq_true rfl, Nat.le_of_ble_eq_true rfl⟩) hG hZ hDA hO hS rfl hl.1 rfl (lv_room (Nat.le_of_ble_eq_true rfl)) dL_law_118 ⟨Nat.le_of_ble_eq_true rfl, Nat.le_of_ble_eq_true rfl⟩ (fun r9 o9 HZ locsZ hp hO hS hsz9 hfr9 => ?_)
    obtain ⟨rfl, rfl⟩ := hp
    have hDl := fun q h9 => Nat.lt_of_lt_of_le (hDl q h9) hsz9
    refine lv_bipush (v := (-2)) hx hb dL_law_121 (by decide) ?_
    refine lv_icmp_ne (tgt := 133) hx hb dL_law_123 (by decide) (fun c9 => absurd c9 (by decide)) (fun _ => ?_)
    refine lv_aload_n hx hb dL_law_126 rfl (lv_at hl 1 rfl) ?_
    refine o_callS (o := (X, hq, 0, c0)) (As := [.ref fs]) (rest := []) hF (c_L_refused l E tm tl D fs (X, hq, 0, c0) xb (fun i hi => by have h8 : i < X 13 0 := hi; have := hpos i (by omega); show 1 ≤ X 0 i; omega)) (cwS 1 hts gL_law_L_refused rfl rfl rfl (by decide +kernel) ⟨Nat.le_of_ble_eq_true rfl, Nat.le_of_ble_eq_true rfl⟩) hG hZ hDA hO hS rfl hl.1 rfl (lv_room (Nat.le_of_ble_eq_true rfl)) dL_law_127 ⟨Nat.le_of_ble_eq_true rfl, Nat.le_of_ble_eq_true rfl⟩ (fun r9 o9 HZ locsZ hp hO hS hsz9 hfr9 => ?_)
    obtain ⟨rfl, rfl⟩ := hp
    have hDl := fun q h9 => Nat.lt_of_lt_of_le (hDl q h9) hsz9
    refine lv_if_ne (tgt := 135) hx hb dL_law_130 (by decide) (fun _ => ?_) (fun c9 => absurd c9 (by decide))
    refine lv_bipush (v := nI 32) hx hb dL_law_135 (by decide) ?_
    refine w_new hx hb (hts (.arrayClass .long) (by decide +kernel)) hG hO hS hA hDl (Nat.le_of_ble_eq_true rfl) (Nat.le_of_ble_eq_true rfl) dL_law_137 (fun cA wa HZ hK hnD hAw hO hW hS => ?_)
    refine lv_astore_n (lv' := [(2, .ref wa), (0, .ref b), (1, .ref fs)]) hx hb dL_law_139 rfl hl (by decide) rfl (fun ls hl => ?_)
    refine lv_iconst (v := nI 0) hx hb dL_law_140 (by decide) ?_
    refine lv_istore_n (lv' := [(3, .int (nI 0)), (2, .ref wa), (0, .ref b), (1, .ref fs)]) hx hb dL_law_141 rfl hl (by decide) rfl (fun ls hl => ?_)
    refine lv_iconst (v := nI 0) hx hb dL_law_142 (by decide) ?_
    refine lv_istore (lv' := [(4, .int (nI 0)), (3, .int (nI 0)), (2, .ref wa), (0, .ref b), (1, .ref fs)]) hx hb dL_law_143 hl (by decide) rfl (fun ls hl => ?_)
    have hl := lv_sub hl [3, 4, 2, 1, 0] rfl
    have C : LC p s m c (fun q : Nat => s.heap.size ≤ q) D E b L tm tl fs wa 0 xs cA := ⟨hF, hG, hZ, hX, hbl, hbA, hDA, hnD, hAw, hK, hL⟩
    exact law_changes l C fin (26 - 0 + 1) 0 (Nat.lt_succ_self _) (Nat.zero_le _) X hq _ 0 ⟨hI.1, hn12, hpos, by rw [hI.2.2.2]; exact Nat.zero_le _⟩ ⟨hln, fun j h1 h2 h3 => absurd h3 (by omega)⟩ (Nat.zero_le _) _ _ _ hO hW hS hl
  have L1 : ∀ (fu k : Nat), 12 - k < fu → k ≤ 12 → ∀ (X : Nat → Nat → Nat) (hq : List (Nat → Nat → Nat)), FI X k → hq.length = min k 4 → ∀ (HZ : Heap) (locsZ : List Loc) (ls : Array Slot), HO E D fs (X, hq, 0, c0) HZ → (∀ q, D q → q < HZ.size) → va_S (fun q : Nat => s.heap.size ≤ q) s.heap HZ locsZ → lv_has ls 9 [(0, .ref b), (1, .ref fs), (2, .int (nI k))] → W p l e room_1 s m #[Value.ref b] below meth c HZ locsZ 270 3852 (lw_Z below #[Value.ref b] s) (F0 m 24 ls []) := by
    intro fu
    induction fu with
    | zero => intro k h; exact absurd h (Nat.not_lt_zero _)
    | succ fu ih =>
      intro k hm hk12 X hq hI hln HZ locsZ ls hO hDl hS hl
      refine lv_iload_n hx hb dL_law_24 rfl (lv_at hl 2 rfl) ?_
      refine lv_bipush (v := nI 12) hx hb dL_law_25 (by decide) ?_
      refine z_icmp_ge (tgt := 89) hx hb dL_law_27 (by decide) (by omega) (by omega) (fun c1 => ?_) (fun c1 => ?_)
      · -- out
        obtain rfl : k = 12 := by omega
        have hl := lv_sub hl [0, 1, 2] rfl
        exact T1 X hq hI hln _ _ _ hO hDl hS hl
      · -- a fret
        have xb : XB X := GI_XB hI.1 (by omega)
        refine lv_sipush (v := nI 150) hx hb dL_law_30 (by decide) ?_
        refine lv_sipush (v := nI 190) hx hb dL_law_33 (by decide) ?_
        refine lv_iload_n hx hb dL_law_36 rfl (lv_at hl 2 rfl) ?_
        refine z_imul (a := 190) (b := k) hx hb dL_law_37 ?_
        refine z_iadd (a := 150) (b := 190 * k) hx hb dL_law_38 ?_
        refine lv_aload_n hx hb dL_law_39 rfl (lv_at hl 0 rfl) ?_
        refine lv_iload_n hx hb dL_law_40 rfl (lv_at hl 2 rfl) ?_
        refine tk_call (k := k) (rest := [.int (nI (150 + (190 * k)))]) hF (c_L_take l E b L xs (k) hL (by omega)) (cwS 2 hts gL_law_L_take rfl rfl rfl (by decide +kernel) ⟨Nat.le_of_ble_eq_true rfl, Nat.le_of_ble_eq_true rfl⟩) hG hX hbl hbA hS hl.1 rfl (lv_room (Nat.le_of_ble_eq_true rfl)) dL_law_41 ⟨Nat.le_of_ble_eq_true rfl, Nat.le_of_ble_eq_true rfl⟩ (fun x0 => ?_)
        refine lv_sipush (v := nI 150) hx hb dL_law_44 (by decide) ?_
        refine z_rd (fun _ h => h) (va_runS (As := [.int x0, .int (nI 150)]) (rest := [.int (nI (150 + (190 * k)))]) hF (c_L_part l E x0 150 (by omega) (by omega)) (cwS 2 hts gL_law_L_part rfl rfl rfl (by decide +kernel) ⟨Nat.le_of_ble_eq_true rfl, Nat.le_of_ble_eq_true rfl⟩) (z_preR zP_nil hG) rfl rfl hl.1 rfl (lv_room (Nat.le_of_ble_eq_true rfl)) dL_law_47 ⟨Nat.le_of_ble_eq_true rfl, Nat.le_of_ble_eq_true rfl⟩) (fun r9 hp => ?_)
        obtain ⟨p9, hp9, rfl⟩ := hp
        refine z_iadd (a := 150 + (190 * k)) (b := p9) hx hb dL_law_50 ?_
        refine lv_istore_n (lv' := [(3, .int (nI ((150 + (190 * k)) + p9))), (0, .ref b), (1, .ref fs), (2, .int (nI k))]) hx hb dL_law_51 rfl hl (by decide) rfl (fun ls hl => ?_)
        refine lv_aload_n hx hb dL_law_52 rfl (lv_at hl 2 rfl) ?_
        refine lv_iload_n hx hb dL_law_53 rfl (lv_at hl 0 rfl) ?_
        refine lv_sipush (v := nI 600) hx hb dL_law_54 (by decide) ?_
        refine lv_aload_n hx hb dL_law_57 rfl (lv_at hl 1 rfl) ?_
        refine lv_bipush (v := nI 12) hx hb dL_law_58 (by decide) ?_
        refine lv_iload_n hx hb dL_law_60 rfl (lv_at hl 3 rfl) ?_
        refine z_iadd (a := 12) (b := k) hx hb dL_law_61 ?_
        refine tk_call (k := 12 + k) (rest := [.int (nI 600), .int (nI ((150 + (190 * k)) + p9)), .ref fs]) hF (c_L_take l E b L xs (12 + k) hL (by omega)) (cwS 2 hts gL_law_L_take rfl rfl rfl (by decide +kernel) ⟨Nat.le_of_ble_eq_true rfl, Nat.le_of_ble_eq_true rfl⟩) hG hX hbl hbA hS hl.1 rfl (lv_room (Nat.le_of_ble_eq_true rfl)) dL_law_62 ⟨Nat.le_of_ble_eq_true rfl, Nat.le_of_ble_eq_true rfl⟩ (fun x1 => ?_)
        refine lv_sipush (v := nI 1400) hx hb dL_law_65 (by decide) ?_
        refine z_rd (fun _ h => h) (va_runS (As := [.int x1, .int (nI 1400)]) (rest := [.int (nI 600), .int (nI ((150 + (190 * k)) + p9)), .ref fs]) hF (c_L_part l E x1 1400 (by omega) (by omega)) (cwS 2 hts gL_law_L_part rfl rfl rfl (by decide +kernel) ⟨Nat.le_of_ble_eq_true rfl, Nat.le_of_ble_eq_true rfl⟩) (z_preR zP_nil hG) rfl rfl hl.1 rfl (lv_room (Nat.le_of_ble_eq_true rfl)) dL_law_68 ⟨Nat.le_of_ble_eq_true rfl, Nat.le_of_ble_eq_true rfl⟩) (fun r9 hp => ?_)
        obtain ⟨z9, hz9, rfl⟩ := hp
        refine z_iadd (a := 600) (b := z9) hx hb dL_law_71 ?_
        refine o_call (o := (X, hq, 0, c0)) (As := [.int (nI ((150 + (190 * k)) + p9)), .int (nI (600 + z9))]) (rest := []) hF (U_fret_y l E tm tl D fs (X, hq, 0, c0) xb (150 + 190 * k + p9) (600 + z9) (by omega) (by omega) (by omega) (FI_ne hI) (by show X 13 0 < 12; rw [hI.2.1]; omega)) (cwV 2 hts gL_law_X6_fret rfl rfl rfl (by decide +kernel) ⟨Nat.le_of_ble_eq_true rfl, Nat.le_of_ble_eq_true rfl⟩) hG hZ hDA hO hS rfl hl.1 rfl (lv_room (Nat.le_of_ble_eq_true rfl)) dL_law_72 ⟨Nat.le_of_ble_eq_true rfl, Nat.le_of_ble_eq_true rfl⟩ (fun r9 o9 HZ locsZ hp hO hS hsz9 hfr9 => ?_)
        obtain ⟨er, rfl⟩ := hp
        have hDl := fun q h9 => Nat.lt_of_lt_of_le (hDl q h9) hsz9
        obtain rfl : r9 = nI (k + 1) := er.trans (congrArg (fun z => nI (z + 1)) (FI_at hI))
        refine lv_iload_n hx hb dL_law_75 rfl (lv_at hl 3 rfl) ?_
        refine lv_iconst (v := nI 1) hx hb dL_law_76 (by decide) ?_
        refine z_iadd (a := k) (b := 1) hx hb dL_law_77 ?_
        refine z_icmp_eq (tgt := 83) hx hb dL_law_78 (by decide) (by omega) (by omega) (fun _ => ?_) (fun c9 => absurd rfl c9)
        refine z_iinc (k := 3) (d := 1) (lv' := [(2, .int (nI (k + 1))), (3, .int (nI ((150 + (190 * k)) + p9))), (0, .ref b), (1, .ref fs)]) hx hb dL_law_83 (by decide) hl rfl (by decide) rfl (fun ls hl => ?_)
        refine lv_goto (tgt := 24) hx hb dL_law_86 (by decide) ?_
        have hl := lv_sub hl [2, 3, 0] rfl
        exact ih (k + 1) (by omega) (by omega) _ (kpH hq X) (FI_s hI (by omega) hp9 (by omega)) (by rw [kpH_len (by omega), hln]; unfold kpS; split <;> omega) _ _ _ hO hDl hS hl
  refine lv_astore_n (lv' := [(1, .ref fs), (0, .ref b)]) hx hb dL_law_21 rfl hl (by decide) rfl (fun ls hl => ?_)
  refine lv_iconst (v := nI 0) hx hb dL_law_22 (by decide) ?_
  refine lv_istore_n (lv' := [(2, .int (nI 0)), (1, .ref fs), (0, .ref b)]) hx hb dL_law_23 rfl hl (by decide) rfl (fun ls hl => ?_)
  have hl := lv_sub hl [2, 1, 0] rfl
  exact L1 (12 - 0 + 1) 0 (Nat.lt_succ_self _) (Nat.zero_le _) iX [] ⟨GI_init, rfl, fun i hi => absurd hi (Nat.not_lt_zero i), rfl⟩ rfl _ _ _ hO hDl hS hl
set_option maxHeartbeats 4000000 in
theorem lw_walk (l : Launch) (hflags : l.flags = flags0) (b : Addr) (xs : List Int32) : MetFree l x (headSpec (Jvm.Cond.code x code maxLocals ret :: tables_1) room_1) (lw_P b xs) (fun _ _ _ _ _ => True) lw_Q := by
  refine MetFree.of_bodyS (code := code) (maxLocals := maxLocals) (ret := ret) (by decide) ?_ ?_
  · intro args s m h hn
    obtain ⟨meth, c, h1, h2, h3, h4, h5, h6, -, -⟩ := Cond.code_spec hn (atoms_spec (ws := Jvm.Cond.code x code maxLocals ret :: tables_1) h _ List.mem_cons_self)
    exact ⟨meth, c, h1, h2, h3, h4, h5, h6⟩
  · intro p e s m args below meth c s₁ B hml0 hP _
    obtain ⟨rfl, hx, hbd, hgv⟩ := hP
    obtain ⟨scr, harrAt, hlist, hof, hsmall⟩ := hx
    obtain ⟨hcb, hkn, -, -⟩ := State.arrayAt?_spec harrAt
    have hown : s.vm.findClass R_law = some m.cls := findClass_of_methodNamed B.named
    have hts0 : ∀ c ∈ (Jvm.Cond.code x code maxLocals ret :: tables_1), c.before #[Value.ref b] s = true := atoms_spec (ws := Jvm.Cond.code x code maxLocals ret :: tables_1) B.pre
    have hts : ∀ w ∈ lw_tbl, w.before #[Value.ref b] s = true := k2_hts_sels lw_privs (fun w hw => hts0 w (List.mem_cons_of_mem _ hw)) lw_privs_ok
    have hml : c.maxLocals = 9 := B.maxLocals_eq (hts0 _ List.mem_cons_self)
    have X₀ : Stand p l e room_1 s m #[Value.ref b] below meth c s₁ [] 0 0 := Stand.of_body B
    have hh0 : s₁.heap = s.heap := by rw [B.state]; rfl
    have hsz : scr.slots.size = xs.length := by rw [← Array.length_toList, hlist, List.length_map]
    have hval : ∀ j : Nat, j < xs.length → scr.slots[j]? = some (.int (xs.getD j 0)) := fun j hj => by
      rw [← Array.getElem?_toList, hlist]
      simp [hj]
    have hbl : b < s.heap.size := (Array.getElem?_eq_some_iff.mp hcb).1
    have hX : va_X b xs.length (fun j => xs.getD j 0) s s.heap := ⟨scr, hcb, hof, hkn, hsz, hval⟩
    have K : W p l e room_1 s m #[Value.ref b] below meth c s₁.heap [] 0 0 (lw_Z below #[Value.ref b] s) (entryFrame m ([Value.ref b] : List Value).toArray 9) := by
      rw [hh0]
      exact whole_start l hflags hbd ⟨B.exec, B.bytes, B.returns, hml, hown, hts, hX, hbl, B.notSynchronized, hgv⟩
    obtain ⟨t, a1, o, b1, b2, b3⟩ := K s₁ rfl X₀
    exact ⟨t, o, a1, b1, b2, b3⟩
theorem lw_pre_spec {args : Array Value} {s : State} (h : (Jvm.Cond.and given_1 narrow_1).before args s = true) (hr : rest_1_c.before args s = true) : ∃ (b : Addr) (xs : List Int32), lw_P b xs args s := by
  have hs := flat_of_before _ h
  have hq := flat_of_before _ hr
  have hc : (Cond.count 1).before args s = true := hs _ (by decide +kernel)
  have harr : (Cond.arrayOf (.arg 0) .int).before args s = true := hs _ (by decide +kernel)
  have hle : (Cond.le (.length (.arg 0)) (.int 260)).before args s = true := hs _ (by decide +kernel)
  have hlen : (Cond.isInt (.length (.arg 0))).before args s = true := hq _ (by decide +kernel)
  have hall : (Cond.all (.arg 0) (.isInt (.elem (.arg 0) (.index 0)))).before args s = true := hq _ (by decide +kernel)
  obtain ⟨b, xs, hb, hx⟩ := State.ints_of_pre rfl harr hlen hall
  have hsm : xs.length < 2 ^ 31 := hx.choose_spec.2.2.2
  have hev : (Term.length (.arg 0)).eval args s none [] s = some (.int xs.length.toInt32) := hx.length_eval hb
  have hv := Cond.le_ints hev (show (Term.int 260).eval args s none [] s = some (.int 260) from rfl)
  have hd : xs.length.toInt32 ≤ 260 := by
    simpa [Cond.before, Cond.holds, hv] using hle
  have hN : xs.length ≤ 260 := (Int32.ofNat_le_ofNat hsm (by decide)).mp (show Int32.ofNat xs.length ≤ Int32.ofNat 260 from hd)
  exact ⟨b, xs, Cond.one_arg hc (show args[0]? = some (.ref b) from hb), hx, hN, h⟩
theorem lw_comes (l : Launch) (hflags : l.flags = flags0) : Comes l x (Jvm.Cond.code x code maxLocals ret :: tables_1) room_1 (fun tb e args s => Calls_1 tb e args s ∧ rest_1 tb e args s ∧ Pre_1 tb e args s)
    (fun _ _ args s o t => lw_Q args s o t) := by
  intro p e ha hc hk s m args below hf hfit hheap happ hpre
  obtain ⟨b, xs, hP⟩ := lw_pre_spec hpre.2.2 hpre.2.1
  obtain ⟨k, o, h1, h2, h3, hQ⟩ := lw_walk l hflags b xs p e ha hc hk s m args below hf ((Spec.applies_iff_loose hf).mp happ).1 hP trivial
  exact ⟨k, o, h1, h2, h3, hQ⟩
theorem lw_frame {s t : State} {o : Outcome} {args : Array Value} (h : Framed s o t [] 600000 7302249) :
    Framed s o t (fieldLocs frame_1_writes args s ++ arrayLocs frame_1_arrays args s ++ staticLocs frame_1_statics s) 600000 7302249 := h
theorem lw_limb (L : Cond) (hL : ∀ (args : Array Value) (s t : State), L.after args s (.returned (some (.int 1))) t = true) :
    ArmFor flags0 classFile x code maxLocals ret World_1 tables_1 room_1 Calls_1 rest_1 Pre_1
      (fun tb e a s o t => postC L tb e a s o t ∧ Framed s o t (fieldLocs frame_1_writes a s ++ arrayLocs frame_1_arrays a s ++ staticLocs frame_1_statics s) 600000 7302249) := by
  intro l hflags _ _ p e ha hc hk s m args below hf hfit hheap happ hpre
  obtain ⟨k, o, h1, h2, h3, rfl, hF⟩ := lw_comes l hflags p e ha hc hk s m args below hf hfit hheap happ hpre
  exact ⟨k, _, h1, h2, h3, hL args s _, lw_frame hF⟩
theorem i_vc : Claimed_1_1 ∧ Claimed_1_2 := ⟨lw_limb limb_1_1 (fun args s t => by simp [limb_1_1, Cond.after, Cond.holds, Cond.value]), lw_limb limb_1_2 (fun args s t => Cond.after_iff.mpr (by
  first | (rw [show limb_1_2 = Cond.eq .result (.int 1) from rfl, Cond.eq_ints (x := 1) (y := 1) rfl rfl]; simp; done) | (simp [limb_1_2, Cond.value, Term.eval]; done)))⟩
