/-! ===== constructors: rows and their form of contract ===== -/
def c0 : Nat → Nat := fun _ => 0
def rr0 : Nat → Option Nat := fun _ => none
section ZNEW
variable {p : Program} {l : Launch} {e : Env} {R : Room} {s : State} {m : MethodId} {args : Array Value} {below : List Frame} {meth : Method} {c : Code} {H : Heap} {locs : List Loc} {cells slots : Nat} {Q : State → Prop}
variable {cc : ByteArray} {pc : Nat} {ls : Array Slot} {rest : List Value} {A : Nat → Prop} {H0 : Heap} {E : zE} {ws : va_W}
theorem z_newi (hx : p.tables.exec = Jvm.exec) (hb : c.code = cc) (harr : (Cond.arrayClass .int).before args s = true) (hG : zG E s) (hP : va_P E.1 vwCl ws H) (hD : va_D A ws) (hS : va_S A H0 H locs) (hA : ∀ q, H0.size ≤ q → A q) {N : Nat} (hN : N ≤ 100000) (hcells : cells + 1 ≤ R.cells) (hslots : slots + N ≤ R.slots) (hdg : decode cc pc = .ok (.newarray .int, 2))
    (kk : ∀ (q : Nat) (H1 : Heap), va_P E.1 vwCl (ws ++ [(q, .inl (E.2.1, N, .inl (fun zz => nI (c0 zz))))]) H1 → va_D A (ws ++ [(q, .inl (E.2.1, N, .inl (fun zz => nI (c0 zz))))]) → va_S A H0 H1 locs → W p l e R s m args below meth c H1 locs (cells + 1) (slots + N) Q (F0 m (pc + 2) ls (.ref q :: rest))) : W p l e R s m args below meth c H locs cells slots Q (F0 m pc ls (.int (nI N) :: rest)) := by
  refine va_newa (atype := .int) (ty := .int) hx hb harr rfl hG.1 hP hD hS hA (N' := N) (a0 := (N, .inl (fun zz => nI (c0 zz)))) (fun cA => rfl) (nI_pos (by omega)) (nI_clamp (by omega)) (by show N * 4 ≤ _; omega) hcells hslots hdg (fun q cA H1 hK hP1 hD1 hS1 => ?_)
  have h1 := (hK.2 3 (cA, .int) rfl).2
  have h2 := (hG.1.2 0 (E.2.1, .int) rfl).2
  have e1 : cA = E.2.1 := Option.some.inj (h1.symm.trans h2)
  subst e1
  exact kk q H1 hP1 hD1 hS1
theorem z_newc (hx : p.tables.exec = Jvm.exec) (hb : c.code = cc) (harr : (Cond.arrayClass .char).before args s = true) (hG : zG E s) (hP : va_P E.1 vwCl ws H) (hD : va_D A ws) (hS : va_S A H0 H locs) (hA : ∀ q, H0.size ≤ q → A q) {N : Nat} (hN : N ≤ 100000) (hcells : cells + 1 ≤ R.cells) (hslots : slots + N ≤ R.slots) (hdg : decode cc pc = .ok (.newarray .char, 2))
    (kk : ∀ (q : Nat) (H1 : Heap), va_P E.1 vwCl (ws ++ [(q, .inl (E.2.2.1, N, .inl (fun zz => nI (c0 zz))))]) H1 → va_D A (ws ++ [(q, .inl (E.2.2.1, N, .inl (fun zz => nI (c0 zz))))]) → va_S A H0 H1 locs → W p l e R s m args below meth c H1 locs (cells + 1) (slots + N) Q (F0 m (pc + 2) ls (.ref q :: rest))) : W p l e R s m args below meth c H locs cells slots Q (F0 m pc ls (.int (nI N) :: rest)) := by
  refine va_newa (atype := .char) (ty := .char) hx hb harr rfl hG.1 hP hD hS hA (N' := N) (a0 := (N, .inl (fun zz => nI (c0 zz)))) (fun cA => rfl) (nI_pos (by omega)) (nI_clamp (by omega)) (by show N * 2 ≤ _; omega) hcells hslots hdg (fun q cA H1 hK hP1 hD1 hS1 => ?_)
  have h1 := (hK.2 3 (cA, .char) rfl).2
  have h2 := (hG.1.2 1 (E.2.2.1, .char) rfl).2
  have e1 : cA = E.2.2.1 := Option.some.inj (h1.symm.trans h2)
  subst e1
  exact kk q H1 hP1 hD1 hS1
theorem z_newq (hx : p.tables.exec = Jvm.exec) (hb : c.code = cc) {own : String} {index : Nat} (hown : s.vm.findClass own = some m.cls) (hclink : (Cond.classLink own index RX4).before args s = true) (hover : va_AO RX4 s) (hG : zG E s) (hP : va_P E.1 vwCl ws H) (hD : va_D A ws) (hS : va_S A H0 H locs) (hA : ∀ q, H0.size ≤ q → A q) {N : Nat} (hN : N ≤ 100000) (hcells : cells + 1 ≤ R.cells) (hslots : slots + N ≤ R.slots) (hdg : decode cc pc = .ok (.anewarray index, 3))
    (kk : ∀ (q : Nat) (H1 : Heap), va_P E.1 vwCl (ws ++ [(q, .inl (E.2.2.2, N, .inr (.inr (.inr (.inr rr0)))))]) H1 → va_D A (ws ++ [(q, .inl (E.2.2.2, N, .inr (.inr (.inr (.inr rr0)))))]) → va_S A H0 H1 locs → W p l e R s m args below meth c H1 locs (cells + 1) (slots + N) Q (F0 m (pc + 3) ls (.ref q :: rest))) : W p l e R s m args below meth c H locs cells slots Q (F0 m pc ls (.int (nI N) :: rest)) := by
  refine va_newq hx hb hown hclink hover hG.1 hP hD hS hA (N' := N) (nI_pos (by omega)) (nI_clamp (by omega)) (by omega) hcells hslots hdg (fun q cA H1 hK hP1 hD1 hS1 => ?_)
  obtain ⟨k1, c1, -, -, -, h1⟩ := (hK.2 3 (cA, .object RX4) rfl).2
  obtain ⟨k2, c2, -, -, -, h2⟩ := (hG.1.2 2 (E.2.2.2, .object RX4) rfl).2
  have e1 : cA = E.2.2.2 := Option.some.inj (h1.symm.trans h2)
  subst e1
  exact kk q H1 hP1 hD1 hS1
theorem z_astq (hx : p.tables.exec = Jvm.exec) (hb : c.code = cc) (hG : zG E s) (hP : va_P E.1 vwCl ws H) (hD : va_D A ws) (hS : va_S A H0 H locs) (q0 qk : Nat) {ra n v : Nat} {vs : List Value} {f : Nat → Option Nat} (ha : ws[q0]? = some (ra, .inl (E.2.2.2, n, .inr (.inr (.inr (.inr f)))))) (hv : ws[qk]? = some (v, .inr (4, vs))) {j : Nat} (hj : j < n) (hn : n < 2147483648) (hdg : decode cc pc = .ok (.aastore, 1))
    (kk : ∀ (H1 : Heap) (locs1 : List Loc), va_P E.1 vwCl (ws.set q0 (ra, .inl (E.2.2.2, n, .inr (.inr (.inr (.inr (va_up f j (some v)))))))) H1 → va_D A (ws.set q0 (ra, .inl (E.2.2.2, n, .inr (.inr (.inr (.inr (va_up f j (some v)))))))) → va_S A H0 H1 locs1 → W p l e R s m args below meth c H1 locs1 cells slots Q (F0 m (pc + 1) ls rest)) : W p l e R s m args below meth c H locs cells slots Q (F0 m pc ls (.ref v :: .int (nI j) :: .ref ra :: rest)) := by
  refine va_astq hx hb hG.1 hP hD hS q0 2 qk 4 ha rfl hv rfl (vp_in_nI hj (by omega)) hdg ?_
  rw [z_clamp (by omega)]
  exact kk
end ZNEW
/-- a constructor: the object and what it made -/
def zPn (E : zE) (h : Nat) (o : va_E) (sz : Nat) : State → Prop := fun U => U.heap.size = sz ∧ va_P E.1 vwCl [(h, o)] U.heap ∧ va_D (fun _ => True) [(h, o)] ∧ zG E U ∧ va_AO RX4 U
def zBn (E : zE) (h : Nat) (o : va_E) (sz : Nat) : va_W → State → Prop := fun u t => va_P E.1 vwCl u t.heap ∧ va_D (va_A [(h, o)] sz) u
def zN (l : Launch) (y : MethodName) (ws : List Cond) (rm : Room) (E : zE) (h : Nat) (o : va_E) (post : va_W → Prop) (mc ms : Nat) : Prop := ∀ sz : Nat, Met l y ws rm (va_Pc [.ref h] (zPn E h o sz)) (va_Qv post (zBn E h o sz) (va_A [(h, o)] sz)) mc ms (va_A [(h, o)] sz)
theorem zN.start {l : Launch} {y : MethodName} {ws ws' : List Cond} {rm : Room} {E : zE} {h : Nat} {o : va_E} {cc : ByteArray} {nL : Nat} {own : String} {post : va_W → Prop} {mc ms : Nat} (hR : y.cls = own) (hni : y.name = "<init>") (hy : plainFor y = true) (hw : ws = Cond.code y cc nL none :: ws') (hn : (lg_sl [Value.ref h]).length ≤ nL)
    (body : ∀ (p : Program) (e : Env) (s : State) (m : MethodId) (args : Array Value) (below : List Frame) (meth : Method) (c : Code) (Q : State → Prop) (A : Nat → Prop), CallFix p m c cc nL s args ws own → meth.name = "<init>" →
      (∀ (w' : va_W) (H : Heap) (locs : List Loc) (pc : Nat) (ls : Array Slot), va_P E.1 vwCl w' H → va_D A w' → va_S A s.heap H locs → decode cc pc = .ok (.return_, 1) → post w' → W p l e rm s m args below meth c H locs mc ms Q (F0 m pc ls [])) →
      (∀ q, s.heap.size ≤ q → A q) → va_AO RX4 s → ∀ (H : Heap) (locs : List Loc), va_P E.1 vwCl [(h, o)] H → va_D A [(h, o)] → va_S A s.heap H locs → zG E s → ∀ ls : Array Slot, lv_has ls nL (lv_args 0 [Value.ref h]) → W p l e rm s m args below meth c H locs 0 0 Q (F0 m 0 ls [])) : zN l y ws rm E h o post mc ms := by
  intro sz
  refine va_MetF (cc := cc) (maxL := nL) (ret := none) hy hw ?_
  intro p e s m args below meth c s₁ B hml hv
  obtain ⟨rfl, rfl, hP, hD, hG, hO⟩ := hv
  have hown : s.vm.findClass own = some m.cls := hR ▸ findClass_of_methodNamed B.named
  have hin : meth.name = "<init>" := ((name_of_methodNamed B.named B.method).1).trans hni
  rw [lg_entry_eq]
  exact body p e s m _ below meth c _ (va_A [(h, o)] s.heap.size) ⟨B.exec, B.bytes, hml, hown, atoms_spec (ws := ws) B.pre⟩ hin (fun w' H locs pc ls hP hD hS hd hp => W.vret B.exec B.bytes B.returns (fun t ht hW => ⟨⟨w', rfl, hp, by rw [ht]; exact hP, hD⟩, hS.F ht⟩) hS.2.2 hd B.notSynchronized) (fun q hq => Or.inr hq) hO s.heap [] hP hD.self va_S.rf hG _ (lv_entry _ hn)
theorem z_preN {E : zE} {h : Nat} {o : va_E} {s : State} {H : Heap} (hP : va_P E.1 vwCl [(h, o)] H) (hG : zG E s) (hO : va_AO RX4 s) : PreS s H (va_Pc [.ref h] (zPn E h o H.size)) [.ref h] := ⟨fun _ _ _ _ q => ⟨q.1, q.2.1, q.2.2.1, q.2.2.2.1, q.2.2.2.2.1.call, va_AO.moved (Vm.Alike.refl _) q.2.2.2.2.2⟩, fun U hU hW => ⟨rfl, by rw [hU], by rw [hU]; exact hP, ⟨fun i j p q hi hj _ => by
    have a1 := (List.getElem?_eq_some_iff.mp hi).1
    have a2 := (List.getElem?_eq_some_iff.mp hj).1
    simp only [List.length_cons, List.length_nil] at a1 a2
    omega, fun _ _ _ => trivial⟩, hG.warm hW, va_AO.moved hW.alike hO⟩⟩
theorem zP_iff {D : va_G} {cl : List vw_C} {ws : va_W} {H : Heap} : va_P D cl ws H ↔ ∀ q, q ∈ ws → va_at D cl q H := by
  constructor
  · intro h q hq
    obtain ⟨i, hi⟩ := List.mem_iff_getElem?.mp hq
    exact h i q hi
  · intro h k q hk
    exact h q (List.mem_of_getElem? hk)
section ZCT
variable {p : Program} {l : Launch} {e : Env} {R : Room} {s : State} {m : MethodId} {args : Array Value} {below : List Frame} {meth : Method} {c : Code} {H : Heap} {locs : List Loc} {cells slots : Nat} {Q : State → Prop}
variable {pc : Nat} {ls : Array Slot} {rest st0 : List Value} {a : Array Value} {A : Nat → Prop} {H0 : Heap}
theorem z_ctor {E : zE} {h mc ms : Nat} {o : va_E} {post : va_W → Prop} {wr ws : va_W} (hw : ws = wr ++ [(h, o)]) (hr : va_Run p l e R s m args below meth c H locs cells slots mc ms (F0 m pc ls st0) rest (va_Qv post (zBn E h o H.size) (va_A [(h, o)] H.size) a) (va_A [(h, o)] H.size)) (hP : va_P E.1 vwCl ws H) (hD : va_D A ws) (hS : va_S A H0 H locs) (hA : ∀ q, H0.size ≤ q → A q)
    (kk : ∀ (w' : va_W) (H1 : Heap) (locs1 : List Loc), post w' → va_P E.1 vwCl (wr ++ w') H1 → va_D A (wr ++ w') → va_S A H0 H1 locs1 → W p l e R s m args below meth c H1 locs1 (cells + mc) (slots + ms) Q (F0 m (pc + 3) ls rest)) : W p l e R s m args below meth c H locs cells slots Q (F0 m pc ls st0) := by
  subst hw
  have hf : ∀ q, va_A [(h, o)] H.size q → A q := by
    intro q hq
    rcases hq with ⟨k, e9, hk⟩ | hq
    · have := List.mem_of_getElem? hk
      rw [List.mem_singleton] at this
      cases this
      obtain ⟨i, hi⟩ := List.mem_iff_getElem?.mp (show (h, o) ∈ wr ++ [(h, o)] from List.mem_append_right _ (List.mem_singleton.mpr rfl))
      exact hD.2 i _ hi
    · exact hA q (Nat.le_trans hS.1 hq)
  refine va_callv hr hS (fun q _ z => hf q z) hf (fun u t H1 locs1 ht hvm hp hB hz hk hS1 => ?_)
  obtain ⟨hP1, hD1⟩ := hB
  rw [ht] at hP1
  obtain ⟨n1, n2⟩ := zD_nd.mp hD
  obtain ⟨u1, u2⟩ := zD_nd.mp hD1
  rw [List.map_append] at n1
  obtain ⟨r1, -, r3⟩ := List.nodup_append.mp n1
  have hout : ∀ q, q ∈ wr → q.1 < H.size ∧ ¬ va_A [(h, o)] H.size q.1 := by
    intro q hq
    have hl : q.1 < H.size := by
      obtain ⟨i, hi⟩ := List.mem_iff_getElem?.mp (show q ∈ wr ++ [(h, o)] from List.mem_append_left _ hq)
      exact (hP i q hi).lt
    refine ⟨hl, ?_⟩
    rintro (⟨k, e9, hk9⟩ | h9)
    · have := List.mem_of_getElem? hk9
      rw [List.mem_singleton] at this
      have e2 : q.1 = h := congrArg Prod.fst this
      exact r3 _ (List.mem_map_of_mem hq) h (by simp) e2
    · omega
  refine kk u H1 locs1 hp (zP_iff.mpr (fun q hq => ?_)) (zD_nd.mpr ⟨?_, fun q hq => ?_⟩) hS1
  · rcases List.mem_append.mp hq with h9 | h9
    · obtain ⟨o1, o2⟩ := hout q h9
      exact (zP_iff.mp hP q (List.mem_append_left _ h9)).kept (hk q.1 o1 o2)
    · exact zP_iff.mp hP1 q h9
  · rw [List.map_append]
    refine List.nodup_append.mpr ⟨r1, u1, fun x hx y hy e9 => ?_⟩
    obtain ⟨q, hq, rfl⟩ := List.mem_map.mp hx
    obtain ⟨q2, hq2, rfl⟩ := List.mem_map.mp hy
    exact (hout q hq).2 (e9 ▸ u2 q2 hq2)
  · rcases List.mem_append.mp hq with h9 | h9
    · exact n2 q (List.mem_append_left _ h9)
    · exact hf _ (u2 q h9)
end ZCT
-- what a new state, a new reference hold
def iT : Nat → Nat := va_up (va_up (va_up (va_up c0 0 1000000) 1 1334000) 2 1780000) 3 2375000
def iSe : Nat → Nat := va_up (va_up (va_up (va_up (va_up c0 0 10) 1 5) 2 500) 3 1000) 4 50
def iX : Nat → Nat → Nat := mkX c0 c0 c0 iT c0 c0 c0 c0 c0 c0 c0 c0 iSe 0 0 0 0
def iM : Nat → Nat := va_up (va_up (va_up (va_up (va_up (va_up (va_up (va_up (va_up c0 4 10) 5 5) 6 500) 7 1000) 8 50) 45 1000000) 49 1334000) 53 1780000) 57 2375000
theorem arrV_ext {cA : ClassId} {n : Nat} {f g : Nat → Value} (h : ∀ j, j < n → f j = g j) : arrV cA n f = arrV cA n g := by
  unfold arrV
  congr 1
  apply Array.ext
  · simp
  · intro i h1 h2
    simp at h1
    simp [h i h1]
theorem z_q4 {E : zE} {o : Nat × va_E} {rw a b c d : Nat} {t : va_W} {H : Heap} (hP : va_P E.1 vwCl (o :: (rw, .inl (E.2.2.2, 4, .inr (.inr (.inr (.inr (va_up (va_up (va_up (va_up rr0 0 (some a)) 1 (some b)) 2 (some c)) 3 (some d))))))) :: t) H) : va_P E.1 vwCl (o :: (rw, .inl (E.2.2.2, 4, .inr (.inr (.inr (.inr (rr4 a b c d)))))) :: t) H := by
  rw [zP_iff] at hP ⊢
  intro q hq
  rcases List.mem_cons.mp hq with h | h
  · exact hP q (List.mem_cons.mpr (Or.inl h))
  · rcases List.mem_cons.mp h with h | h
    · subst h
      have h2 := hP _ (List.mem_cons.mpr (Or.inr (List.mem_cons.mpr (Or.inl rfl))))
      refine Eq.trans (show _ = _ from h2) (congrArg some ?_)
      rw [vp_cell_q, vp_cell_q]
      refine arrV_ext (fun j hj => ?_)
      obtain rfl | rfl | rfl | rfl : j = 0 ∨ j = 1 ∨ j = 2 ∨ j = 3 := by omega
      all_goals rfl
    · exact hP q (List.mem_cons.mpr (Or.inr (List.mem_cons.mpr (Or.inr h))))
theorem z_q4D {E : zE} {A : Nat → Prop} {o : Nat × va_E} {rw a b c d : Nat} {t : va_W} (hD : va_D A (o :: (rw, .inl (E.2.2.2, 4, .inr (.inr (.inr (.inr (va_up (va_up (va_up (va_up rr0 0 (some a)) 1 (some b)) 2 (some c)) 3 (some d))))))) :: t)) : va_D A (o :: (rw, .inl (E.2.2.2, 4, .inr (.inr (.inr (.inr (rr4 a b c d)))))) :: t) := by
  obtain ⟨h1, h2⟩ := zD_nd.mp hD
  refine zD_nd.mpr ⟨h1, fun q hq => ?_⟩
  rcases List.mem_cons.mp hq with h | h
  · exact h2 q (List.mem_cons.mpr (Or.inl h))
  · rcases List.mem_cons.mp h with h | h
    · subst h
      have h3 := h2 _ (List.mem_cons.mpr (Or.inr List.mem_cons_self))
      exact h3
    · exact h2 q (List.mem_cons.mpr (Or.inr (List.mem_cons.mpr (Or.inr h))))
