/-! ===== tables that stand in static fields ===== -/
def mstF : Nat → Nat := fun j => match j with
  | 0 => 1000
  | 1 => 100
  | 2 => 1000
  | 3 => 1000000
  | _ => 100000
def lstF : Nat → Nat := fun j => match j with
  | 3 => 1
  | _ => 0
def zST (tm tl : Nat) (A : Nat → Prop) (U : State) (H : Heap) : Prop := va_Z RX6 "MOST_OF_SETTING" "[I" (.ref tm) A U H ∧ va_Z RX6 "LEAST_OF_SETTING" "[I" (.ref tl) A U H ∧ va_T .int tm 5 (fun j => .int (nI (mstF j))) A U H ∧ va_T .int tl 5 (fun j => .int (nI (lstF j))) A U H
theorem zST.moved {tm tl : Nat} {A : Nat → Prop} {u U : State} {H : Heap} (hvm : u.vm.Alike U.vm) (h : zST tm tl A u H) : zST tm tl A U H := ⟨va_Z.moved hvm h.1, va_Z.moved hvm h.2.1, va_T.moved hvm h.2.2.1, va_T.moved hvm h.2.2.2⟩
theorem zST.kept {tm tl : Nat} {A : Nat → Prop} {U : State} {H H1 : Heap} (h : zST tm tl A U H) (hq : ∀ a : Nat, a < H.size → ¬ A a → H1[a]? = H[a]?) : zST tm tl A U H1 := ⟨h.1.kept hq, h.2.1.kept hq, h.2.2.1.kept hq, h.2.2.2.kept hq⟩
theorem zST.narrow {tm tl : Nat} {A B : Nat → Prop} {U : State} {H : Heap} (h : zST tm tl A U H) (hAB : ∀ q, B q → A q) : zST tm tl B U H := ⟨h.1.narrow hAB, h.2.1.narrow hAB, h.2.2.1.narrow hAB, h.2.2.2.narrow hAB⟩
def zMS (l : Launch) (y : MethodName) (ws : List Cond) (rm : Room) (E : zE) (tm tl : Nat) (av : List Value) (w : va_W) (post : Int32 → va_W → Prop) : Prop :=
  Met l y ws rm (va_Pc av (fun U => va_P E.1 vwCl w U.heap ∧ va_D (fun _ => True) w ∧ zG E U ∧ zST tm tl (zAd w) U U.heap)) (zQm E w post) 0 0 (zAd w)
theorem zMS.start {l : Launch} {y : MethodName} {ws ws' : List Cond} {rm : Room} {E : zE} {tm tl : Nat} {av : List Value} {w : va_W} {cc : ByteArray} {nL : Nat} {own : String} {post : Int32 → va_W → Prop} {ty : FieldType} (hR : y.cls = own) (hy : plainFor y = true) (hw : ws = Cond.code y cc nL (some ty) :: ws') (hn : (lg_sl av).length ≤ nL) (hty : ∀ v w', post v w' → narrow ty (.int v) = .int v)
    (body : ∀ (p : Program) (e : Env) (s : State) (m : MethodId) (args : Array Value) (below : List Frame) (meth : Method) (c : Code) (Q : State → Prop) (A : Nat → Prop), CallFix p m c cc nL s args ws own →
      (∀ (v : Int32) (w' : va_W) (H : Heap) (locs : List Loc) (pc : Nat) (ls : Array Slot), va_P E.1 vwCl w' H → va_S A s.heap H locs → decode cc pc = .ok (.ireturn, 1) → w'.map (·.1) = w.map (·.1) → post v w' → W p l e rm s m args below meth c H locs 0 0 Q (F0 m pc ls [.int v])) →
      zST tm tl A s s.heap → ∀ (H : Heap) (locs : List Loc), va_P E.1 vwCl w H → va_D A w → va_S A s.heap H locs → zG E s → ∀ ls : Array Slot, lv_has ls nL (lv_args 0 av) → W p l e rm s m args below meth c H locs 0 0 Q (F0 m 0 ls [])) : zMS l y ws rm E tm tl av w post := by
  refine va_MetF (cc := cc) (maxL := nL) (ret := some ty) hy hw ?_
  intro p e s m args below meth c s₁ B hml hv
  obtain ⟨rfl, hP, hD, hG, hZ⟩ := hv
  have hown : s.vm.findClass own = some m.cls := hR ▸ findClass_of_methodNamed B.named
  rw [lg_entry_eq]
  exact body p e s m _ below meth c _ (zAd w) ⟨B.exec, B.bytes, hml, hown, atoms_spec (ws := ws) B.pre⟩ (fun v w' H locs pc ls hP hS hd he hp => W.zret B.exec B.bytes B.returns (hty v w' hp) (fun t ht hW => ⟨⟨v, w', rfl, hp, he, by rw [ht]; exact hP⟩, hS.F ht⟩) hS.2.2 hd B.notSynchronized) hZ s.heap [] hP (zD_self hD) va_S.rf hG _ (lv_entry av hn)
theorem z_blindMS {E : zE} {tm tl : Nat} {av : List Value} {w : va_W} : FrameBlind (va_Pc av (fun U => va_P E.1 vwCl w U.heap ∧ va_D (fun _ => True) w ∧ zG E U ∧ zST tm tl (zAd w) U U.heap)) := fun _ U g mk h => ⟨h.1, h.2.1, h.2.2.1, h.2.2.2.1.call, h.2.2.2.2.moved (u := U) (Vm.Alike.refl U.vm)⟩
theorem z_preMSV {E : zE} {tm tl : Nat} {As : List Value} {w : va_W} {s : State} {H : Heap} {b : Nat} {C : String} {A : Nat → Prop} (hr : ∃ cell : Cell, H[b]? = some cell ∧ cell.vm.isStatics = false ∧ s.vm.findClass C = some cell.cls) (hP : va_P E.1 vwCl w H) (hD : va_D (fun _ => True) w) (hG : zG E s) (hA : ∀ q, zAd w q → A q) (hZ : zST tm tl A s H) : PreV s H C b (va_Pc (.ref b :: As) (fun U => va_P E.1 vwCl w U.heap ∧ va_D (fun _ => True) w ∧ zG E U ∧ zST tm tl (zAd w) U U.heap)) As := ⟨z_blindMS, hr, fun U hU hW => ⟨rfl, by rw [hU]; exact hP, hD, hG.warm hW, by rw [hU]; exact (hZ.narrow hA).moved hW.alike⟩⟩
theorem mstF_b (k : Nat) : mstF k ≤ 1000000 := by unfold mstF; split <;> omega
theorem lstF_b (k : Nat) : lstF k ≤ 1 := by unfold lstF; split <;> omega
theorem can_y {k w : Nat} (hk : k < 5) (h1 : lstF k ≤ w) (h2 : w ≤ mstF k) : stO k w := by
  obtain rfl | rfl | rfl | rfl | rfl : k = 0 ∨ k = 1 ∨ k = 2 ∨ k = 3 ∨ k = 4 := by omega
  · exact Or.inl ⟨Or.inl rfl, h2⟩
  · exact Or.inr (Or.inl ⟨rfl, h2⟩)
  · exact Or.inl ⟨Or.inr rfl, h2⟩
  · exact Or.inr (Or.inr (Or.inl ⟨rfl, h1, h2⟩))
  · exact Or.inr (Or.inr (Or.inr ⟨rfl, h2⟩))
theorem can_b {k w : Nat} (h : stO k w) : k < 5 ∧ lstF k ≤ w ∧ w ≤ mstF k := by
  rcases h with ⟨rfl | rfl, h⟩ | ⟨rfl, h⟩ | ⟨rfl, h1, h2⟩ | ⟨rfl, h⟩
  · exact ⟨by omega, Nat.zero_le _, h⟩
  · exact ⟨by omega, Nat.zero_le _, h⟩
  · exact ⟨by omega, Nat.zero_le _, h⟩
  · exact ⟨by omega, h1, h2⟩
  · exact ⟨by omega, Nat.zero_le _, h⟩
theorem can_f1 {a v : Int32} (h : ¬ (nI 0 ≤ a ∧ a ≤ nI (5 - 1))) : ¬ canP a v := by
  intro q
  obtain ⟨k, w, rfl, rfl, hk, -⟩ := can_n q
  exact h ⟨nI_le (Nat.zero_le _) (by omega), nI_le (by omega) (by omega)⟩
theorem can_f2 {k : Nat} {v : Int32} (hk : k < 5) (h : ¬ (nI (lstF k) ≤ v ∧ v ≤ nI (mstF k))) : ¬ canP (nI k) v := by
  intro q
  obtain ⟨k', w, e, rfl, hk', hst⟩ := can_n q
  have e2 : k = k' := by
    have := congrArg Int32.toNatClampNeg e
    rw [nI_clamp (by omega), nI_clamp (by omega)] at this
    exact this
  subst e2
  obtain ⟨-, h1, h2⟩ := can_b hst
  have hm := mstF_b k
  exact h ⟨nI_le h1 (by omega), nI_le h2 (by omega)⟩
