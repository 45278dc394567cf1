/-! ===== states told by lists ===== -/
def lkL (L : List Nat) : Nat → Nat := fun i => L.getD i 0
def ofL (P Hh Wr T Pr Fi Pl So St Am Or Ti Se : List Nat) (n sz tk lo : Nat) : Nat → Nat → Nat := mkX (lkL P) (lkL Hh) (lkL Wr) (lkL T) (lkL Pr) (lkL Fi) (lkL Pl) (lkL So) (lkL St) (lkL Am) (lkL Or) (lkL Ti) (lkL Se) n sz tk lo
/-- the same to all that can be seen -/
def EQX (X Y : Nat → Nat → Nat) : Prop := (∀ i, i < 12 → X 0 i = Y 0 i ∧ X 1 i = Y 1 i ∧ X 2 i = Y 2 i) ∧ (∀ i, i < 4 → X 3 i = Y 3 i ∧ X 4 i = Y 4 i ∧ X 5 i = Y 5 i ∧ X 6 i = Y 6 i ∧ X 7 i = Y 7 i ∧ X 8 i = Y 8 i ∧ X 13 i = Y 13 i) ∧ (∀ i, i < 48 → X 9 i = Y 9 i) ∧ (∀ i, i < 52 → X 10 i = Y 10 i ∧ X 11 i = Y 11 i) ∧ (∀ i, i < 5 → X 12 i = Y 12 i)
theorem at_ext {D : va_G} {cl : List vw_C} {q n : Nat} {cA : ClassId} {f g : Nat → Nat} {H : Heap} (h : ∀ j, j < n → f j = g j) (h9 : va_at D cl (q, .inl (cA, n, .inl (fun zz => nI (f zz)))) H) : va_at D cl (q, .inl (cA, n, .inl (fun zz => nI (g zz)))) H := by
  have e : vp_cell cA (n, .inl (fun zz => nI (f zz))) = vp_cell cA (n, .inl (fun zz => nI (g zz))) := by
    rw [vp_cell_i, vp_cell_i]
    exact arrV_ext (fun j hj => by rw [h j hj])
  show H[q]? = some _
  rw [← e]
  exact h9
theorem zD_same {A : Nat → Prop} {w w9 : va_W} (e : w9.map (·.1) = w.map (·.1)) (hD : va_D A w) : va_D A w9 := by
  obtain ⟨h1, h2⟩ := zD_nd.mp hD
  refine zD_nd.mpr ⟨by rw [e]; exact h1, fun q hq => ?_⟩
  have : q.1 ∈ w.map (·.1) := by rw [← e]; exact List.mem_map_of_mem hq
  obtain ⟨q9, hq9, eq9⟩ := List.mem_map.mp this
  rw [← eq9]
  exact h2 q9 hq9
theorem oT_ext {E : zE} {sc ch len pl fp : Nat} {st fr fo ti to : Int32} {Ch Dh : Nat → Nat} {H : Heap} (h : ∀ i, i < 80 → Ch i = Dh i) (hP : va_P E.1 vwCl (oT E sc ch len pl fp st fr fo ti to Ch) H) : va_P E.1 vwCl (oT E sc ch len pl fp st fr fo ti to Dh) H := by
  intro k q hq
  match k, hq with
  | 0, hq => exact hP 0 q hq
  | 1, hq => cases hq; exact at_ext h (hP 1 _ rfl)
  | k + 2, hq => exact absurd hq (by simp [oT])
set_option maxRecDepth 20000 in
theorem oK_ext {E : zE} {fs sc hi rw hz old : Nat} {ad adA adB adC adD : Nat → Nat} {X Y XA XB XC XD : Nat → Nat → Nat} {H : Heap} (h : EQX X Y) (hP : va_P E.1 vwCl (oK E fs sc hi rw ad adA adB adC adD hz old X XA XB XC XD) H) : va_P E.1 vwCl (oK E fs sc hi rw ad adA adB adC adD hz old Y XA XB XC XD) H := by
  obtain ⟨h1, h2, h3, h4, h5⟩ := h
  have e0 := (h2 0 (by omega)).2.2.2.2.2.2
  have e1 := (h2 1 (by omega)).2.2.2.2.2.2
  have e2 := (h2 2 (by omega)).2.2.2.2.2.2
  have e3 := (h2 3 (by omega)).2.2.2.2.2.2
  intro k q hq
  match k, hq with
  | 0, hq => exact hP 0 q hq
  | 1, hq => cases hq; rw [← e2, ← e3]; exact hP 1 _ rfl
  | 2, hq => cases hq; rw [← e0]; exact hP 2 _ rfl
  | 3, hq => cases hq; exact at_ext (fun j hj => (h1 j hj).1) (hP 3 _ rfl)
  | 4, hq => cases hq; exact at_ext (fun j hj => (h1 j hj).2.1) (hP 4 _ rfl)
  | 5, hq => cases hq; exact at_ext (fun j hj => (h1 j hj).2.2) (hP 5 _ rfl)
  | 6, hq => exact hP 6 q hq
  | 7, hq => cases hq; exact at_ext (fun j hj => (h2 j hj).1) (hP 7 _ rfl)
  | 8, hq => cases hq; exact at_ext (fun j hj => (h2 j hj).2.1) (hP 8 _ rfl)
  | 9, hq => cases hq; exact at_ext (fun j hj => (h2 j hj).2.2.1) (hP 9 _ rfl)
  | 10, hq => cases hq; exact at_ext (fun j hj => (h2 j hj).2.2.2.1) (hP 10 _ rfl)
  | 11, hq => cases hq; exact at_ext (fun j hj => (h2 j hj).2.2.2.2.1) (hP 11 _ rfl)
  | 12, hq => cases hq; exact at_ext (fun j hj => (h2 j hj).2.2.2.2.2.1) (hP 12 _ rfl)
  | 13, hq => cases hq; exact at_ext (h3) (hP 13 _ rfl)
  | 14, hq => cases hq; rw [← e1]; exact hP 14 _ rfl
  | 15, hq => cases hq; exact at_ext (fun j hj => (h4 j hj).1) (hP 15 _ rfl)
  | 16, hq => cases hq; exact at_ext (fun j hj => (h4 j hj).2) (hP 16 _ rfl)
  | 17, hq => cases hq; exact at_ext (h5) (hP 17 _ rfl)
  | 18, hq => exact hP 18 q hq
  | 19, hq => exact hP 19 q hq
  | k + 20, hq => exact hP (k + 20) q hq
theorem oK_adr (E : zE) (fs sc hi rw hz old : Nat) (ad adA adB adC adD : Nat → Nat) (X Y XA XB XC XD : Nat → Nat → Nat) : (oK E fs sc hi rw ad adA adB adC adD hz old Y XA XB XC XD).map (·.1) = (oK E fs sc hi rw ad adA adB adC adD hz old X XA XB XC XD).map (·.1) := rfl
theorem HO_ext {E : zE} {D : Nat → Prop} {fs : Nat} {X Y : Nat → Nat → Nat} {hl : List (Nat → Nat → Nat)} {len : Nat} {Ch Dh : Nat → Nat} {H : Heap} (hX : EQX X Y) (hC : ∀ i, i < 80 → Ch i = Dh i) (h : HO E D fs (X, hl, len, Ch) H) : HO E D fs (Y, hl, len, Dh) H := by
  obtain ⟨sc, hi, ch, rw, ad, adA, adB, adC, adD, old, pl, fp, XA, XB, XC, XD, st, fr, fo, ti, to, ⟨q1, q2, q3, q4, q5⟩, hP, hD⟩ := h
  refine ⟨sc, hi, ch, rw, ad, adA, adB, adC, adD, old, pl, fp, XA, XB, XC, XD, st, fr, fo, ti, to, ⟨q1, q2, q3, q4, fun i hi9 => by show Dh i ≤ 126; rw [← hC i hi9]; exact q5 i hi9⟩, ?_, ?_⟩
  · refine va_P.app (oK_ext hX (zP_left hP)) (oT_ext hC (zP_mem (fun q hq => List.mem_append_right _ hq) hP))
  · refine zD_same ?_ hD
    rw [List.map_append, List.map_append]
    rfl
/-- another history, of which no more is known -/
theorem oW_new (E : zE) (fs sc hi ch rw : Nat) (ad adA adB adC adD : Nat → Nat) : ((fs, .inr (6, [.ref (ad 0), .ref hi, .ref sc])) :: (stW E ad iX ++ ((hi, .inr (0, [.int (nI 0), .int (nI 0), .ref rw])) :: (rw, .inl (E.2.2.2, 4, .inr (.inr (.inr (.inr (rr4 (adA 0) (adB 0) (adC 0) (adD 0))))))) :: (stW E adA iX ++ stW E adB iX ++ stW E adC iX ++ stW E adD iX)) ++ [(sc, .inr (3, [.int (nI 0), .ref ch, .int (nI 0), .int (nI 0), .int (nI 0), .int (nI 0), .int (nI 0), .int (nI 0), .int (nI 0)])), (ch, .inl (E.2.2.1, 80, .inl (fun zz => nI (c0 zz))))]) : va_W) = oK E fs sc hi rw ad adA adB adC adD 0 0 iX iX iX iX iX ++ oT E sc ch 0 0 0 (nI 0) (nI 0) (nI 0) (nI 0) (nI 0) c0 := by
  have e : ∀ a b c d : va_W, a ++ b ++ c ++ d = a ++ (b ++ (c ++ d)) := fun a b c d => by simp only [List.append_assoc]
  rw [e]
  rfl
theorem HO_new {E : zE} {D : Nat → Prop} {fs sc hi ch rw : Nat} {ad adA adB adC adD : Nat → Nat} {H : Heap} (hP : va_P E.1 vwCl (oK E fs sc hi rw ad adA adB adC adD 0 0 iX iX iX iX iX ++ oT E sc ch 0 0 0 (nI 0) (nI 0) (nI 0) (nI 0) (nI 0) c0) H) (hD : va_D D (oK E fs sc hi rw ad adA adB adC adD 0 0 iX iX iX iX iX ++ oT E sc ch 0 0 0 (nI 0) (nI 0) (nI 0) (nI 0) (nI 0) c0)) : HO E D fs (iX, [], 0, c0) H :=
  ⟨sc, hi, ch, rw, ad, adA, adB, adC, adD, 0, 0, 0, iX, iX, iX, iX, nI 0, nI 0, nI 0, nI 0, nI 0, ⟨Nat.zero_le _, Nat.zero_le _, fun k hk => absurd hk (Nat.not_lt_zero _), Nat.zero_le _, fun i hi9 => Nat.zero_le _⟩, hP, hD⟩
/-! ===== a method of the law that makes its own object ===== -/
def nPc (E : zE) (tm tl sz : Nat) : Array Value → State → Prop := va_Pc [] (fun U => U.heap.size = sz ∧ zG E U ∧ va_AO RX4 U ∧ zST tm tl (fun q => sz ≤ q) U U.heap)
def nM (l : Launch) (y : MethodName) (ws : List Cond) (rm : Room) (E : zE) (tm tl mc ms : Nat) : Prop := ∀ sz : Nat, Met l y ws rm (nPc E tm tl sz) (va_Qi (fun r (_ : Unit) => r = nI 1) (fun _ _ => True) (fun q => sz ≤ q)) mc ms (fun q => sz ≤ q)
theorem nM.start {l : Launch} {y : MethodName} {ws ws9 : List Cond} {rm : Room} {E : zE} {tm tl mc ms : Nat} {cc : ByteArray} {nL : Nat} {own : String} (hR : y.cls = own) (hy : plainFor y = true) (hw : ws = Cond.code y cc nL (some .boolean) :: ws9)
    (body : ∀ (p : Program) (e : Env) (s : State) (m : MethodId) (args : Array Value) (below : List Frame) (meth : Method) (c : Code) (Q : State → Prop), CallFix p m c cc nL s args ws own →
      (∀ (H : Heap) (locs : List Loc) (pc : Nat) (ls : Array Slot), va_S (fun q => s.heap.size ≤ q) s.heap H locs → decode cc pc = .ok (.ireturn, 1) → W p l e rm s m args below meth c H locs mc ms Q (F0 m pc ls [.int (nI 1)])) →
      zG E s → va_AO RX4 s → zST tm tl (fun q => s.heap.size ≤ q) s s.heap → ∀ ls : Array Slot, lv_has ls nL [] → W p l e rm s m args below meth c s.heap [] 0 0 Q (F0 m 0 ls [])) : nM l y ws rm E tm tl mc ms := by
  intro sz
  refine va_MetF (cc := cc) (maxL := nL) (ret := some .boolean) hy hw ?_
  intro p e s m args below meth c s₁ B hml hv
  obtain ⟨rfl, rfl, hG, hO, hZ⟩ := hv
  have hown : s.vm.findClass own = some m.cls := hR ▸ findClass_of_methodNamed B.named
  rw [lg_entry_eq]
  exact body p e s m _ below meth c _ ⟨B.exec, B.bytes, hml, hown, atoms_spec (ws := ws) B.pre⟩ (fun H locs pc ls hS hd => W.zret (ty := .boolean) B.exec B.bytes B.returns rfl (fun t ht hW => ⟨⟨nI 1, (), rfl, rfl, trivial⟩, hS.F ht⟩) hS.2.2 hd B.notSynchronized) hG hO hZ _ (lv_entry [] (Nat.zero_le _))
section NC
variable {p : Program} {l : Launch} {e : Env} {R : Room} {s : State} {m : MethodId} {args : Array Value} {below : List Frame} {meth : Method} {c : Code} {H : Heap} {locs : List Loc} {cells slots : Nat} {Q : State → Prop}
variable {y : MethodName} {bytes cc : ByteArray} {maxL nL index : Nat} {ret : Option FieldType} {ws Ts : List Cond} {rm : Room} {own : String} {rest : List Value} {pc mc ms : Nat} {ls : Array Slot}
variable {E : zE} {tm tl : Nat}
theorem n_call (F : CallFix p m c cc nL s args Ts own) (hM : nM l y ws rm E tm tl mc ms) (cw : CallB R s args own index y bytes maxL ret ws rm mc ms 0 ∧ (Cond.static y).before args s = true) (hG : zG E s) (hO : va_AO RX4 s) (hZ : zST tm tl (fun q => s.heap.size ≤ q) s s.heap) (hS : va_S (fun q => s.heap.size ≤ q) s.heap H locs)
    (hsize : ls.size = nL) (hW : 2 * (F0 m pc ls rest).monitorRoom + (rest.map fun v => v.category).sum ≤ 8) (hdg : decode cc pc = .ok (.invokestatic index, 3)) (hf : cells + mc ≤ R.cells ∧ slots + ms ≤ R.slots)
    (kk : ∀ (H1 : Heap) (locs1 : List Loc), va_S (fun q => s.heap.size ≤ q) s.heap H1 locs1 → W p l e R s m args below meth c H1 locs1 (cells + mc) (slots + ms) Q (F0 m (pc + 3) ls (.int (nI 1) :: rest))) : W p l e R s m args below meth c H locs cells slots Q (F0 m pc ls rest) := by
  have hr := va_runS (e := e) (below := below) (meth := meth) (locs := locs) (As := []) (rest := rest) (g := F0 m pc ls rest) F (hM H.size) cw ⟨fun _ U g mk h => ⟨h.1, h.2.1, h.2.2.1.call, va_AO.moved (Vm.Alike.refl _) h.2.2.2.1, h.2.2.2.2.moved (u := U) (Vm.Alike.refl U.vm)⟩, fun U hU hW => ⟨rfl, by rw [hU], hG.warm hW, va_AO.moved hW.alike hO, by
    subst hU
    exact ((hZ.kept (fun a h1 h2 => hS.2.1 a h1 h2)).narrow (fun q h9 => Nat.le_trans hS.1 h9)).moved hW.alike⟩⟩ rfl rfl hsize rfl hW hdg hf
  refine va_calli hr hS (fun q _ z => Nat.le_trans hS.1 z) (fun q z => Nat.le_trans hS.1 z) (fun r u t H1 locs1 ht hvm hp hB hz hk hS1 => ?_)
  subst hp
  exact kk H1 locs1 hS1
end NC
