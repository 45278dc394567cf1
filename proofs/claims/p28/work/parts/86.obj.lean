/-! ===== an object of the class as one thing: what it holds, its history, its text ===== -/
theorem nB {a : Int32} {k lo up : Nat} (e : a = nI k) (h1 : lo ≤ k) (h2 : k ≤ up) (h3 : up < 2147483648) : nI lo ≤ a ∧ a ≤ nI up := by
  subst e
  exact ⟨nI_le h1 (by omega), nI_le h2 (by omega)⟩
theorem oMetOf {l : Launch} {y : MethodName} {ws : List Cond} {rm : Room} {Pc9 : Array Value → State → Prop} {Qc9 : Array Value → State → Outcome → State → Prop} {mc ms : Nat} {free9 : Addr → Prop}
    (h : ∀ a s, Pc9 a s → ∃ (Pc : Array Value → State → Prop) (Qc : Array Value → State → Outcome → State → Prop) (free : Addr → Prop), Met l y ws rm Pc Qc mc ms free ∧ Pc a s ∧ (∀ q, free q → free9 q) ∧ ∀ o t, Qc a s o t → Qc9 a s o t) : Met l y ws rm Pc9 Qc9 mc ms free9 := by
  intro p e ha hc hk s m args below hf happ hP hK
  obtain ⟨Pc, Qc, free, hM, h1, h2, h3⟩ := h args s hP
  obtain ⟨n, o, a1, a2, a3, hq, L, hF, hL⟩ := hM p e ha hc hk s m args below hf happ h1 trivial
  exact ⟨n, o, a1, a2, a3, h3 o _ hq, L, hF, fun q hq => h2 _ (hL q hq)⟩
abbrev oS : Type := (Nat → Nat → Nat) × List (Nat → Nat → Nat) × Nat × (Nat → Nat)
def oK8 (E : zE) (hi rw : Nat) (ad adA adB adC adD : Nat → Nat) (hz old : Nat) (X XA XB XC XD : Nat → Nat → Nat) : va_W := (((ad 2), .inl (E.2.1, 12, .inl (fun zz => nI ((X 0) zz)))) :: ((ad 3), .inl (E.2.1, 12, .inl (fun zz => nI ((X 1) zz)))) :: ((ad 4), .inl (E.2.1, 12, .inl (fun zz => nI ((X 2) zz)))) :: ((ad 5), .inr (5, [.ref (ad 6), .ref (ad 7), .ref (ad 8), .ref (ad 9), .ref (ad 10), .ref (ad 11), .ref (ad 12)])) :: ((ad 6), .inl (E.2.1, 4, .inl (fun zz => nI ((X 3) zz)))) :: ((ad 7), .inl (E.2.1, 4, .inl (fun zz => nI ((X 4) zz)))) :: ((ad 8), .inl (E.2.1, 4, .inl (fun zz => nI ((X 5) zz)))) :: ((ad 9), .inl (E.2.1, 4, .inl (fun zz => nI ((X 6) zz)))) :: ((ad 10), .inl (E.2.1, 4, .inl (fun zz => nI ((X 7) zz)))) :: ((ad 11), .inl (E.2.1, 4, .inl (fun zz => nI ((X 8) zz)))) :: ((ad 12), .inl (E.2.1, 48, .inl (fun zz => nI ((X 9) zz)))) :: ((ad 13), .inr (2, [.int (nI (X 13 1)), .ref (ad 14), .ref (ad 15)])) :: ((ad 14), .inl (E.2.1, 52, .inl (fun zz => nI ((X 10) zz)))) :: ((ad 15), .inl (E.2.1, 52, .inl (fun zz => nI ((X 11) zz)))) :: ((ad 16), .inl (E.2.1, 5, .inl (fun zz => nI ((X 12) zz)))) :: (hi, .inr (0, [.int (nI hz), .int (nI old), .ref rw])) :: (rw, .inl (E.2.2.2, 4, .inr (.inr (.inr (.inr (rr4 (adA 0) (adB 0) (adC 0) (adD 0))))))) :: (stW E adA XA ++ (stW E adB XB ++ (stW E adC XC ++ (stW E adD XD)))))
def oK9 (E : zE) (hi rw : Nat) (ad adA adB adC adD : Nat → Nat) (hz old : Nat) (X XA XB XC XD : Nat → Nat → Nat) : va_W := ((ad 0), .inr (4, [.ref (ad 1), .ref (ad 5), .ref (ad 13), .ref (ad 16), .int (nI (X 13 2)), .int (nI (X 13 3))])) :: ((ad 1), .inr (1, [.int (nI (X 13 0)), .ref (ad 2), .ref (ad 3), .ref (ad 4)])) :: oK8 E hi rw ad adA adB adC adD hz old X XA XB XC XD
def oK (E : zE) (fs sc hi rw : Nat) (ad adA adB adC adD : Nat → Nat) (hz old : Nat) (X XA XB XC XD : Nat → Nat → Nat) : va_W := (fs, .inr (6, [.ref (ad 0), .ref hi, .ref sc])) :: oK9 E hi rw ad adA adB adC adD hz old X XA XB XC XD
def oT (E : zE) (sc ch len pl fp : Nat) (st fr fo ti to : Int32) (Ch : Nat → Nat) : va_W := [(sc, .inr (3, [.int (nI len), .ref ch, .int st, .int fr, .int fo, .int ti, .int (nI pl), .int to, .int (nI fp)])), (ch, .inl (E.2.2.1, 80, .inl (fun zz => nI (Ch zz))))]
/-- the history: the states that are kept, the oldest first -/
def HS (old : Nat) (XA XB XC XD : Nat → Nat → Nat) (hl : List (Nat → Nat → Nat)) : Prop := ∀ k, k < hl.length → hl[k]? = some (gbX ((old + k) % 4) XA XB XC XD)
def oQ (old : Nat) (XA XB XC XD : Nat → Nat → Nat) (o : oS) : Prop := o.2.1.length ≤ 4 ∧ old ≤ 3 ∧ HS old XA XB XC XD o.2.1 ∧ o.2.2.1 ≤ 80 ∧ ∀ i, i < 80 → o.2.2.2 i ≤ 126
def HO (E : zE) (D : Nat → Prop) (fs : Nat) (o : oS) (H : Heap) : Prop := ∃ (sc hi ch rw : Nat) (ad adA adB adC adD : Nat → Nat) (old pl fp : Nat) (XA XB XC XD : Nat → Nat → Nat) (st fr fo ti to : Int32), oQ old XA XB XC XD o ∧ va_P E.1 vwCl (oK E fs sc hi rw ad adA adB adC adD o.2.1.length old o.1 XA XB XC XD ++ oT E sc ch o.2.2.1 pl fp st fr fo ti to o.2.2.2) H ∧ va_D D (oK E fs sc hi rw ad adA adB adC adD o.2.1.length old o.1 XA XB XC XD ++ oT E sc ch o.2.2.1 pl fp st fr fo ti to o.2.2.2)
def oG (E : zE) (tm tl : Nat) (D : Nat → Prop) (U : State) : Prop := zG E U ∧ zST tm tl D U U.heap
def oP (E : zE) (tm tl : Nat) (D : Nat → Prop) (fs : Nat) (av : List Value) (o : oS) : Array Value → State → Prop := va_Pc av (fun U => HO E D fs o U.heap ∧ oG E tm tl D U)
def oM (l : Launch) (y : MethodName) (ws : List Cond) (rm : Room) (E : zE) (tm tl : Nat) (D : Nat → Prop) (fs : Nat) (av : List Value) (o : oS) (post : Int32 → oS → Prop) : Prop := Met l y ws rm (oP E tm tl D fs av o) (va_Qi post (fun u t => HO E D fs u t.heap) D) 0 0 D
def oMl (l : Launch) (y : MethodName) (ws : List Cond) (rm : Room) (E : zE) (tm tl : Nat) (D : Nat → Prop) (fs : Nat) (av : List Value) (o : oS) (post : Int64 → oS → Prop) : Prop := Met l y ws rm (oP E tm tl D fs av o) (va_Ql post (fun u t => HO E D fs u t.heap) D) 0 0 D
def oMv (l : Launch) (y : MethodName) (ws : List Cond) (rm : Room) (E : zE) (tm tl : Nat) (D : Nat → Prop) (fs : Nat) (av : List Value) (o : oS) (post : oS → Prop) : Prop := Met l y ws rm (oP E tm tl D fs av o) (va_Qv post (fun u t => HO E D fs u t.heap) D) 0 0 D
section OL
variable {l : Launch} {y : MethodName} {ws : List Cond} {rm : Room} {E : zE} {tm tl : Nat} {D : Nat → Prop} {fs : Nat} {av : List Value} {o : oS}
theorem oM_go {post : Int32 → oS → Prop} {w fr : va_W} {p1 : Int32 → va_W → Prop} {st t : State} {oc : Outcome} (hP0 : va_P E.1 vwCl (w ++ fr) st.heap) (hD0 : va_D D (w ++ fr)) (hq : ∀ r w9, p1 r w9 → ∃ o9, post r o9 ∧ ∀ H9, va_P E.1 vwCl (w9 ++ fr) H9 → va_D D (w9 ++ fr) → HO E D fs o9 H9) {a : Array Value} (h9 : zQm E w p1 a st oc t) : va_Qi post (fun u t => HO E D fs u t.heap) D a st oc t := by
  have hC := zC_app w fr
  have hf := z_free hD0 (List.range' 0 w.length) hC
  obtain ⟨⟨r, w9, hv, hpo, ha, hP1⟩, hz, hk⟩ := h9
  obtain ⟨j1, j2⟩ := z_join hP0 hD0 (List.range' 0 w.length) hC ha (fun q h1 h2 => hk q h1 h2) hP1
  have hlen : w9.length = w.length := by simpa using congrArg List.length ha
  have hput := zput_app w9 w [] fr hlen
  rw [List.length_nil, List.nil_append, List.nil_append] at hput
  rw [hput] at j1 j2
  obtain ⟨o9, hp9, hb⟩ := hq r w9 hpo
  exact ⟨⟨r, o9, hv, hp9, hb _ j1 j2⟩, hz, fun q h1 h2 => hk q h1 (fun z => h2 (hf q z))⟩
/-- a method's contract over a part of the object's cells, as one over the object -/
theorem oM_of {post : Int32 → oS → Prop} (h : ∀ H, HO E D fs o H → ∃ (w fr ws0 : va_W) (p1 : Int32 → va_W → Prop), ws0.Perm (w ++ fr) ∧ va_P E.1 vwCl ws0 H ∧ va_D D ws0 ∧ zM l y ws rm E av w p1 ∧ ∀ r w9, p1 r w9 → ∃ o9, post r o9 ∧ ∀ H9, va_P E.1 vwCl (w9 ++ fr) H9 → va_D D (w9 ++ fr) → HO E D fs o9 H9) : oM l y ws rm E tm tl D fs av o post := by
  refine oMetOf (fun a s hp => ?_)
  obtain ⟨rfl, hO, hG, hZ⟩ := hp
  obtain ⟨w, fr, ws0, p1, hp, hP, hD, hM, hq⟩ := h _ hO
  have hP0 := zP_perm hp hP
  have hD0 := zD_perm hp hD
  exact ⟨_, _, _, hM, ⟨rfl, zP_left hP0, zD_left hD0, hG⟩, z_free hD0 (List.range' 0 w.length) (zC_app w fr), fun oc t h9 => oM_go hP0 hD0 hq h9⟩
theorem oM_ofS {post : Int32 → oS → Prop} (h : ∀ H, HO E D fs o H → ∃ (w fr ws0 : va_W) (p1 : Int32 → va_W → Prop), ws0.Perm (w ++ fr) ∧ va_P E.1 vwCl ws0 H ∧ va_D D ws0 ∧ zMS l y ws rm E tm tl av w p1 ∧ ∀ r w9, p1 r w9 → ∃ o9, post r o9 ∧ ∀ H9, va_P E.1 vwCl (w9 ++ fr) H9 → va_D D (w9 ++ fr) → HO E D fs o9 H9) : oM l y ws rm E tm tl D fs av o post := by
  refine oMetOf (fun a s hp => ?_)
  obtain ⟨rfl, hO, hG, hZ⟩ := hp
  obtain ⟨w, fr, ws0, p1, hp, hP, hD, hM, hq⟩ := h _ hO
  have hP0 := zP_perm hp hP
  have hD0 := zD_perm hp hD
  have hf := z_free hD0 (List.range' 0 w.length) (zC_app w fr)
  exact ⟨_, _, _, hM, ⟨rfl, zP_left hP0, zD_left hD0, hG, hZ.narrow hf⟩, hf, fun oc t h9 => oM_go hP0 hD0 hq h9⟩
theorem oM_rd {post : Int32 → Prop} (h : ∀ H, HO E D fs o H → ∃ (w : va_W) (p1 : Int32 → Prop), va_P E.1 vwCl w H ∧ zR l y ws rm E av w p1 ∧ ∀ r, p1 r → post r) : oM l y ws rm E tm tl D fs av o (fun r o9 => post r ∧ o9 = o) := by
  refine oMetOf (fun a s hp => ?_)
  obtain ⟨rfl, hO, hG, hZ⟩ := hp
  obtain ⟨w, p1, hP, hM, hq⟩ := h _ hO
  refine ⟨_, _, _, hM, ⟨rfl, hP, hG⟩, fun q hq => hq.elim, fun oc t h9 => ?_⟩
  obtain ⟨⟨r, hv, hp⟩, hz⟩ := h9
  exact ⟨⟨r, o, hv, ⟨hq r hp, rfl⟩, by show HO E D fs o t.heap; rw [hz]; exact hO⟩, by rw [hz]; exact Nat.le_refl _, fun q _ _ => by rw [hz]⟩
theorem oM_mono {post post9 : Int32 → oS → Prop} (h : oM l y ws rm E tm tl D fs av o post) (hq : ∀ r o9, post r o9 → post9 r o9) : oM l y ws rm E tm tl D fs av o post9 := by
  refine oMetOf (fun a s hp => ⟨_, _, _, h, hp, fun q hq => hq, fun oc t h9 => ?_⟩)
  obtain ⟨⟨r, u, hv, hp, hb⟩, hf⟩ := h9
  exact ⟨⟨r, u, hv, hq r u hp, hb⟩, hf⟩
end OL
theorem o_blind {E : zE} {tm tl : Nat} {D : Nat → Prop} {fs : Nat} {av : List Value} {o : oS} : FrameBlind (oP E tm tl D fs av o) := fun _ U g mk h => ⟨h.1, h.2.1, h.2.2.1.call, h.2.2.2.moved (u := U) (Vm.Alike.refl U.vm)⟩
theorem HO_recv {E : zE} {D : Nat → Prop} {fs : Nat} {o : oS} {s : State} {H : Heap} (hO : HO E D fs o H) (hG : zG E s) : ∃ cell : Cell, H[fs]? = some cell ∧ cell.vm.isStatics = false ∧ s.vm.findClass RX6 = some cell.cls := by
  obtain ⟨sc, hi, ch, rw, ad, adA, adB, adC, adD, old, pl, fp, XA, XB, XC, XD, st, fr, fo, ti, to, -, hP, -⟩ := hO
  exact va_recv hG.1 hP (ci := 6) (q0 := 0) rfl rfl
section OC
variable {p : Program} {l : Launch} {e : Env} {R : Room} {s : State} {m : MethodId} {args : Array Value} {below : List Frame} {meth : Method} {c : Code} {H : Heap} {locs : List Loc} {cells slots : Nat} {Q : State → Prop}
variable {y : MethodName} {bytes cc : ByteArray} {maxL nL n index : Nat} {ret : Option FieldType} {ws Ts : List Cond} {rm : Room} {own : String} {As rest st0 : List Value} {pc : Nat} {ls : Array Slot}
variable {E : zE} {tm tl : Nat} {D A : Nat → Prop} {fs : Nat} {o : oS}
theorem o_here {H : Heap} (hG : zG E s) (hZ : zST tm tl A s s.heap) (hDA : ∀ q, D q → A q) (hO : HO E D fs o H) (hS : va_S A s.heap H locs) {U : State} (hU : U.heap = H) (hW : s.WarmedH U.vm) : HO E D fs o U.heap ∧ oG E tm tl D U := by
  subst hU
  exact ⟨hO, hG.warm hW, ((hZ.kept (fun a h1 h2 => hS.2.1 a h1 h2)).narrow hDA).moved hW.alike⟩
/-- a call of the object's own method -/
theorem o_call {post : Int32 → oS → Prop} (F : CallFix p m c cc nL s args Ts own) (hM : oM l y ws rm E tm tl D fs (.ref fs :: As) o post) (cw : CallW R s args own RX6 index y bytes maxL ret ws rm 0 0 n) (hG : zG E s) (hZ : zST tm tl A s s.heap) (hDA : ∀ q, D q → A q) (hO : HO E D fs o H) (hS : va_S A s.heap H locs)
    (hn : As.length = n) (hsize : ls.size = nL) (hstack : st0 = As.reverse ++ .ref fs :: rest) (hW : 2 * (F0 m pc ls st0).monitorRoom + (rest.map fun v => v.category).sum ≤ 8) (hdg : decode cc pc = .ok (.invokevirtual index, 3)) (hf : cells + 0 ≤ R.cells ∧ slots + 0 ≤ R.slots)
    (kk : ∀ (r : Int32) (o9 : oS) (H1 : Heap) (locs1 : List Loc), post r o9 → HO E D fs o9 H1 → va_S A s.heap H1 locs1 → H.size ≤ H1.size → (∀ q : Nat, q < H.size → ¬ D q → H1[q]? = H[q]?) → W p l e R s m args below meth c H1 locs1 cells slots Q (F0 m (pc + 3) ls (.int r :: rest))) : W p l e R s m args below meth c H locs cells slots Q (F0 m pc ls st0) := by
  have hr := va_runV (e := e) (below := below) (meth := meth) (locs := locs) (As := As) (rest := rest) (g := F0 m pc ls st0) F hM cw ⟨o_blind, HO_recv hO hG, fun U hU hW => ⟨rfl, o_here hG hZ hDA hO hS hU hW⟩⟩ rfl hn hsize hstack hW hdg hf
  refine va_calli hr hS (fun q _ z => hDA q z) hDA (fun r u t H1 locs1 ht hvm hp hB hz hk hS1 => ?_)
  exact kk r u H1 locs1 hp (by rw [← ht]; exact hB) hS1 hz hk
theorem o_callS {post : Int32 → oS → Prop} (F : CallFix p m c cc nL s args Ts own) (hM : oM l y ws rm E tm tl D fs As o post) (cw : CallB R s args own index y bytes maxL ret ws rm 0 0 n ∧ (Cond.static y).before args s = true) (hG : zG E s) (hZ : zST tm tl A s s.heap) (hDA : ∀ q, D q → A q) (hO : HO E D fs o H) (hS : va_S A s.heap H locs)
    (hn : As.length = n) (hsize : ls.size = nL) (hstack : st0 = As.reverse ++ rest) (hW : 2 * (F0 m pc ls st0).monitorRoom + (rest.map fun v => v.category).sum ≤ 8) (hdg : decode cc pc = .ok (.invokestatic index, 3)) (hf : cells + 0 ≤ R.cells ∧ slots + 0 ≤ R.slots)
    (kk : ∀ (r : Int32) (o9 : oS) (H1 : Heap) (locs1 : List Loc), post r o9 → HO E D fs o9 H1 → va_S A s.heap H1 locs1 → H.size ≤ H1.size → (∀ q : Nat, q < H.size → ¬ D q → H1[q]? = H[q]?) → W p l e R s m args below meth c H1 locs1 cells slots Q (F0 m (pc + 3) ls (.int r :: rest))) : W p l e R s m args below meth c H locs cells slots Q (F0 m pc ls st0) := by
  have hr := va_runS (e := e) (below := below) (meth := meth) (locs := locs) (As := As) (rest := rest) (g := F0 m pc ls st0) F hM cw ⟨o_blind, fun U hU hW => ⟨rfl, o_here hG hZ hDA hO hS hU hW⟩⟩ rfl hn hsize hstack hW hdg hf
  refine va_calli hr hS (fun q _ z => hDA q z) hDA (fun r u t H1 locs1 ht hvm hp hB hz hk hS1 => ?_)
  exact kk r u H1 locs1 hp (by rw [← ht]; exact hB) hS1 hz hk
theorem o_callL {post : Int64 → oS → Prop} (F : CallFix p m c cc nL s args Ts own) (hM : oMl l y ws rm E tm tl D fs As o post) (cw : CallB R s args own index y bytes maxL ret ws rm 0 0 n ∧ (Cond.static y).before args s = true) (hG : zG E s) (hZ : zST tm tl A s s.heap) (hDA : ∀ q, D q → A q) (hO : HO E D fs o H) (hS : va_S A s.heap H locs)
    (hn : As.length = n) (hsize : ls.size = nL) (hstack : st0 = As.reverse ++ rest) (hW : 2 * (F0 m pc ls st0).monitorRoom + (rest.map fun v => v.category).sum ≤ 8) (hdg : decode cc pc = .ok (.invokestatic index, 3)) (hf : cells + 0 ≤ R.cells ∧ slots + 0 ≤ R.slots)
    (kk : ∀ (r : Int64) (o9 : oS) (H1 : Heap) (locs1 : List Loc), post r o9 → HO E D fs o9 H1 → va_S A s.heap H1 locs1 → H.size ≤ H1.size → (∀ q : Nat, q < H.size → ¬ D q → H1[q]? = H[q]?) → W p l e R s m args below meth c H1 locs1 cells slots Q (F0 m (pc + 3) ls (.long r :: rest))) : W p l e R s m args below meth c H locs cells slots Q (F0 m pc ls st0) := by
  have hr := va_runS (e := e) (below := below) (meth := meth) (locs := locs) (As := As) (rest := rest) (g := F0 m pc ls st0) F hM cw ⟨o_blind, fun U hU hW => ⟨rfl, o_here hG hZ hDA hO hS hU hW⟩⟩ rfl hn hsize hstack hW hdg hf
  refine va_calll hr hS (fun q _ z => hDA q z) hDA (fun r u t H1 locs1 ht hvm hp hB hz hk hS1 => ?_)
  exact kk r u H1 locs1 hp (by rw [← ht]; exact hB) hS1 hz hk
theorem o_callU {post : oS → Prop} (F : CallFix p m c cc nL s args Ts own) (hM : oMv l y ws rm E tm tl D fs As o post) (cw : CallB R s args own index y bytes maxL ret ws rm 0 0 n ∧ (Cond.static y).before args s = true) (hG : zG E s) (hZ : zST tm tl A s s.heap) (hDA : ∀ q, D q → A q) (hO : HO E D fs o H) (hS : va_S A s.heap H locs)
    (hn : As.length = n) (hsize : ls.size = nL) (hstack : st0 = As.reverse ++ rest) (hW : 2 * (F0 m pc ls st0).monitorRoom + (rest.map fun v => v.category).sum ≤ 8) (hdg : decode cc pc = .ok (.invokestatic index, 3)) (hf : cells + 0 ≤ R.cells ∧ slots + 0 ≤ R.slots)
    (kk : ∀ (o9 : oS) (H1 : Heap) (locs1 : List Loc), post o9 → HO E D fs o9 H1 → va_S A s.heap H1 locs1 → H.size ≤ H1.size → (∀ q : Nat, q < H.size → ¬ D q → H1[q]? = H[q]?) → W p l e R s m args below meth c H1 locs1 cells slots Q (F0 m (pc + 3) ls rest)) : W p l e R s m args below meth c H locs cells slots Q (F0 m pc ls st0) := by
  have hr := va_runS (e := e) (below := below) (meth := meth) (locs := locs) (As := As) (rest := rest) (g := F0 m pc ls st0) F hM cw ⟨o_blind, fun U hU hW => ⟨rfl, o_here hG hZ hDA hO hS hU hW⟩⟩ rfl hn hsize hstack hW hdg hf
  refine va_callv hr hS (fun q _ z => hDA q z) hDA (fun u t H1 locs1 ht hvm hp hB hz hk hS1 => ?_)
  exact kk u H1 locs1 hp (by rw [← ht]; exact hB) hS1 hz hk
end OC
section OSt
variable {l : Launch} {y : MethodName} {ws ws9 : List Cond} {rm : Room} {E : zE} {tm tl : Nat} {D : Nat → Prop} {fs : Nat} {av : List Value} {o : oS} {cc : ByteArray} {nL : Nat} {own : String}
theorem oM.start {post : Int32 → oS → Prop} {ty : FieldType} (hR : y.cls = own) (hy : plainFor y = true) (hw : ws = Cond.code y cc nL (some ty) :: ws9) (hn : (lg_sl av).length ≤ nL) (hty : ∀ v o9, post v o9 → narrow ty (.int v) = .int v)
    (body : ∀ (p : Program) (e : Env) (s : State) (m : MethodId) (args : Array Value) (below : List Frame) (meth : Method) (c : Code) (Q : State → Prop), CallFix p m c cc nL s args ws own →
      (∀ (v : Int32) (o9 : oS) (H : Heap) (locs : List Loc) (pc : Nat) (ls : Array Slot), HO E D fs o9 H → va_S D s.heap H locs → decode cc pc = .ok (.ireturn, 1) → post v o9 → W p l e rm s m args below meth c H locs 0 0 Q (F0 m pc ls [.int v])) →
      zG E s → zST tm tl D s s.heap → ∀ (H : Heap) (locs : List Loc), HO E D fs o H → va_S D s.heap H locs → ∀ ls : Array Slot, lv_has ls nL (lv_args 0 av) → W p l e rm s m args below meth c H locs 0 0 Q (F0 m 0 ls [])) : oM l y ws rm E tm tl D fs av o post := by
  refine va_MetF (cc := cc) (maxL := nL) (ret := some ty) hy hw ?_
  intro p e s m args below meth c s₁ B hml hv
  obtain ⟨rfl, hO, hG, hZ⟩ := hv
  have hown : s.vm.findClass own = some m.cls := hR ▸ findClass_of_methodNamed B.named
  rw [lg_entry_eq]
  exact body p e s m _ below meth c _ ⟨B.exec, B.bytes, hml, hown, atoms_spec (ws := ws) B.pre⟩ (fun v o9 H locs pc ls hO hS hd hp => W.zret B.exec B.bytes B.returns (hty v o9 hp) (fun t ht hW => ⟨⟨v, o9, rfl, hp, by show HO E D fs o9 t.heap; rw [ht]; exact hO⟩, hS.F ht⟩) hS.2.2 hd B.notSynchronized) hG hZ s.heap [] hO va_S.rf _ (lv_entry av hn)
theorem oMl.start {post : Int64 → oS → Prop} (hR : y.cls = own) (hy : plainFor y = true) (hw : ws = Cond.code y cc nL (some .long) :: ws9) (hn : (lg_sl av).length ≤ nL)
    (body : ∀ (p : Program) (e : Env) (s : State) (m : MethodId) (args : Array Value) (below : List Frame) (meth : Method) (c : Code) (Q : State → Prop), CallFix p m c cc nL s args ws own →
      (∀ (v : Int64) (o9 : oS) (H : Heap) (locs : List Loc) (pc : Nat) (ls : Array Slot), HO E D fs o9 H → va_S D s.heap H locs → decode cc pc = .ok (.lreturn, 1) → post v o9 → W p l e rm s m args below meth c H locs 0 0 Q (F0 m pc ls [.long v])) →
      zG E s → zST tm tl D s s.heap → ∀ (H : Heap) (locs : List Loc), HO E D fs o H → va_S D s.heap H locs → ∀ ls : Array Slot, lv_has ls nL (lv_args 0 av) → W p l e rm s m args below meth c H locs 0 0 Q (F0 m 0 ls [])) : oMl l y ws rm E tm tl D fs av o post := by
  refine va_MetF (cc := cc) (maxL := nL) (ret := some .long) hy hw ?_
  intro p e s m args below meth c s₁ B hml hv
  obtain ⟨rfl, hO, hG, hZ⟩ := hv
  have hown : s.vm.findClass own = some m.cls := hR ▸ findClass_of_methodNamed B.named
  rw [lg_entry_eq]
  exact body p e s m _ below meth c _ ⟨B.exec, B.bytes, hml, hown, atoms_spec (ws := ws) B.pre⟩ (fun v o9 H locs pc ls hO hS hd hp => W.lret B.exec B.bytes B.returns (fun t ht hW => ⟨⟨v, o9, rfl, hp, by show HO E D fs o9 t.heap; rw [ht]; exact hO⟩, hS.F ht⟩) hS.2.2 hd B.notSynchronized) hG hZ s.heap [] hO va_S.rf _ (lv_entry av hn)
theorem oMv.start {post : oS → Prop} (hR : y.cls = own) (hy : plainFor y = true) (hw : ws = Cond.code y cc nL none :: ws9) (hn : (lg_sl av).length ≤ nL)
    (body : ∀ (p : Program) (e : Env) (s : State) (m : MethodId) (args : Array Value) (below : List Frame) (meth : Method) (c : Code) (Q : State → Prop), CallFix p m c cc nL s args ws own →
      (∀ (o9 : oS) (H : Heap) (locs : List Loc) (pc : Nat) (ls : Array Slot), HO E D fs o9 H → va_S D s.heap H locs → decode cc pc = .ok (.return_, 1) → post o9 → W p l e rm s m args below meth c H locs 0 0 Q (F0 m pc ls [])) →
      zG E s → zST tm tl D s s.heap → ∀ (H : Heap) (locs : List Loc), HO E D fs o H → va_S D s.heap H locs → ∀ ls : Array Slot, lv_has ls nL (lv_args 0 av) → W p l e rm s m args below meth c H locs 0 0 Q (F0 m 0 ls [])) : oMv l y ws rm E tm tl D fs av o post := by
  refine va_MetF (cc := cc) (maxL := nL) (ret := none) hy hw ?_
  intro p e s m args below meth c s₁ B hml hv
  obtain ⟨rfl, hO, hG, hZ⟩ := hv
  have hown : s.vm.findClass own = some m.cls := hR ▸ findClass_of_methodNamed B.named
  rw [lg_entry_eq]
  exact body p e s m _ below meth c _ ⟨B.exec, B.bytes, hml, hown, atoms_spec (ws := ws) B.pre⟩ (fun o9 H locs pc ls hO hS hd hp => W.vret B.exec B.bytes B.returns (fun t ht hW => ⟨⟨o9, rfl, hp, by show HO E D fs o9 t.heap; rw [ht]; exact hO⟩, hS.F ht⟩) hS.2.2 hd B.notSynchronized) hG hZ s.heap [] hO va_S.rf _ (lv_entry av hn)
end OSt
/-! ===== the history as a list ===== -/
def kpH (hl : List (Nat → Nat → Nat)) (X : Nat → Nat → Nat) : List (Nat → Nat → Nat) := if hl.length < 4 then hl ++ [X] else hl.tail ++ [X]
def okp (o : oS) (X : Nat → Nat → Nat) : oS := (X, kpH o.2.1 o.1, o.2.2.1, o.2.2.2)
theorem kpH_len {hl : List (Nat → Nat → Nat)} {X : Nat → Nat → Nat} (h : hl.length ≤ 4) : (kpH hl X).length = kpS hl.length := by
  unfold kpH kpS
  split
  · simp
  · simp; omega
theorem HS_kp {old : Nat} {X XA XB XC XD A9 B9 C9 D9 : Nat → Nat → Nat} {hl : List (Nat → Nat → Nat)} (h4 : hl.length ≤ 4) (ho : old ≤ 3) (h : HS old XA XB XC XD hl) (kp : KP old hl.length X XA XB XC XD A9 B9 C9 D9) : HS (kpO old hl.length) A9 B9 C9 D9 (kpH hl X) := by
  intro k hk
  rw [kpH_len h4] at hk
  unfold kpS at hk
  rw [gb_kp kp (Nat.mod_lt _ (by omega))]
  unfold kpI kpO kpH
  by_cases c : hl.length < 4
  · rw [if_pos c] at hk
    rw [if_pos c, if_pos c, if_pos c]
    by_cases ck : k = hl.length
    · subst ck
      rw [if_pos rfl, List.getElem?_append_right (Nat.le_refl _), Nat.sub_self]
      rfl
    · rw [if_neg (by omega), List.getElem?_append_left (by omega)]
      exact h k (by omega)
  · rw [if_neg c] at hk
    rw [if_neg c, if_neg c, if_neg c]
    have hl4 : hl.length = 4 := by omega
    by_cases ck : k = 3
    · subst ck
      rw [if_pos (by omega), List.getElem?_append_right (by simp; omega)]
      simp [hl4]
    · rw [if_neg (by omega), show ((old + 1) % 4 + k) % 4 = (old + (k + 1)) % 4 by omega, List.getElem?_append_left (by simp; omega), List.getElem?_tail]
      exact h (k + 1) (by omega)
theorem HO_kp {E : zE} {D : Nat → Prop} {fs sc hi ch rw old pl fp len : Nat} {ad adA adB adC adD : Nat → Nat} {X XA XB XC XD A9 B9 C9 D9 Z : Nat → Nat → Nat} {hl : List (Nat → Nat → Nat)} {st fr fo ti to : Int32} {Ch : Nat → Nat} (q : oQ old XA XB XC XD (X, hl, len, Ch)) (kp : KP old hl.length X XA XB XC XD A9 B9 C9 D9) {H : Heap}
    (hP : va_P E.1 vwCl (oK E fs sc hi rw ad adA adB adC adD (kpS hl.length) (kpO old hl.length) Z A9 B9 C9 D9 ++ oT E sc ch len pl fp st fr fo ti to Ch) H) (hD : va_D D (oK E fs sc hi rw ad adA adB adC adD (kpS hl.length) (kpO old hl.length) Z A9 B9 C9 D9 ++ oT E sc ch len pl fp st fr fo ti to Ch)) : HO E D fs (okp (X, hl, len, Ch) Z) H := by
  obtain ⟨h4, ho, hh, hl8, hch⟩ := q
  have e : (okp (X, hl, len, Ch) Z).2.1.length = kpS hl.length := kpH_len h4
  refine ⟨sc, hi, ch, rw, ad, adA, adB, adC, adD, kpO old hl.length, pl, fp, A9, B9, C9, D9, st, fr, fo, ti, to, ⟨by rw [e]; unfold kpS; split <;> omega, by unfold kpO; split <;> omega, HS_kp h4 ho hh kp, hl8, hch⟩, ?_, ?_⟩
  · rw [e]; exact hP
  · rw [e]; exact hD
