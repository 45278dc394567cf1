/-! ===== own base: the environment of the worlds, two forms of contract, calls ===== -/
abbrev zE : Type := va_G × ClassId × ClassId × ClassId
abbrev zT (E : zE) : List (ClassId × FieldType) := [(E.2.1, .int), (E.2.2.1, .char), (E.2.2.2, .object RX4)]
def zNl : List Cond := [.methodLinkNest RX6 9 yX4_init RX6, .methodLinkNest RX4 11 yX1_init RX6, .methodLinkNest RX4 20 yX5_init RX6, .methodLinkNest RX4 27 yX2_init RX6, .methodLinkNest RX6 18 yX0_init RX6, .methodLinkNest RX0 11 yX4_init RX6, .methodLinkNest RX6 25 yX3_init RX6, .methodLinkNest RX1 31 yX6_isWithin RX6, .methodLinkNest RX5 75 yX6_greatestCommonDivisor RX6, .methodLinkNest RX3 58 yX6_isString RX6, .methodLinkNest RX3 42 yX6_isWithin RX6]
def zNs (U : State) : Prop := ∀ w ∈ zNl, va_Nw w U
def zG (E : zE) (U : State) : Prop := va_K E.1 vwCl (zT E) U ∧ zNs U
theorem zNl_nest : ∀ w ∈ zNl, ∃ a i x h, w = Cond.methodLinkNest a i x h := by
  intro w hw
  simp only [zNl, List.mem_cons, List.not_mem_nil, or_false] at hw
  rcases hw with rfl | rfl | rfl | rfl | rfl | rfl | rfl | rfl | rfl | rfl | rfl <;> exact ⟨_, _, _, _, rfl⟩
theorem zNs.warm {s U : State} (hW : s.WarmedH U.vm) (h : zNs s) : zNs U := fun w hw => by
  obtain ⟨a, i, x, h', rfl⟩ := zNl_nest w hw
  exact va_Nw.warmM hW (h _ hw)
theorem zNs.call {U : State} {g : JFrame} {mk : MethodId} {a : Array Value} (h : zNs U) : zNs (U.calling g mk a) := fun w hw => by
  obtain ⟨a, i, x, h', rfl⟩ := zNl_nest w hw
  exact va_Nw.same rfl rfl (h _ hw)
theorem zG.warm {E : zE} {s U : State} (hW : s.WarmedH U.vm) (h : zG E s) : zG E U := ⟨va_K.moved hW.alike h.1, h.2.warm hW⟩
theorem zG.call {E : zE} {U : State} {g : JFrame} {mk : MethodId} {a : Array Value} (h : zG E U) : zG E (U.calling g mk a) := ⟨va_K.moved (u := U) (U := U.calling g mk a) (Vm.Alike.refl U.vm) h.1, h.2.call⟩
/-- a read: an int comes back, the heap is the same -/
def zQr (post : Int32 → Prop) : Array Value → State → Outcome → State → Prop := fun _ st oc t => (∃ r : Int32, oc = .returned (some (.int r)) ∧ post r) ∧ t.heap = st.heap
def zR (l : Launch) (y : MethodName) (ws : List Cond) (rm : Room) (E : zE) (av : List Value) (w : va_W) (post : Int32 → Prop) : Prop :=
  Met l y ws rm (va_Pc av (fun U => va_P E.1 vwCl w U.heap ∧ zG E U)) (zQr post) 0 0 (fun _ => False)
/-- a change: an int comes back, the cells of the world hold new things -/
def zAd (w : va_W) : Nat → Prop := fun q => ∃ (k : Nat) (e : va_E), w[k]? = some (q, e)
def zQm (E : zE) (w : va_W) (post : Int32 → va_W → Prop) : Array Value → State → Outcome → State → Prop := fun _ st oc t => (∃ (r : Int32) (w' : va_W), oc = .returned (some (.int r)) ∧ post r w' ∧ w'.map (·.1) = w.map (·.1) ∧ va_P E.1 vwCl w' t.heap) ∧ va_F (zAd w) st t
def zM (l : Launch) (y : MethodName) (ws : List Cond) (rm : Room) (E : zE) (av : List Value) (w : va_W) (post : Int32 → va_W → Prop) : Prop :=
  Met l y ws rm (va_Pc av (fun U => va_P E.1 vwCl w U.heap ∧ va_D (fun _ => True) w ∧ zG E U)) (zQm E w post) 0 0 (zAd w)
def zQv (E : zE) (w : va_W) (post : va_W → Prop) : Array Value → State → Outcome → State → Prop := fun _ st oc t => (∃ (w' : va_W), oc = .returned none ∧ post w' ∧ w'.map (·.1) = w.map (·.1) ∧ va_P E.1 vwCl w' t.heap) ∧ va_F (zAd w) st t
def zV (l : Launch) (y : MethodName) (ws : List Cond) (rm : Room) (E : zE) (av : List Value) (w : va_W) (post : va_W → Prop) : Prop :=
  Met l y ws rm (va_Pc av (fun U => va_P E.1 vwCl w U.heap ∧ va_D (fun _ => True) w ∧ zG E U)) (zQv E w post) 0 0 (zAd w)
theorem zD_self {w : va_W} (h : va_D (fun _ => True) w) : va_D (zAd w) w := ⟨h.1, fun k q hk => ⟨k, q.2, hk⟩⟩
section Z
variable {l : Launch} {y : MethodName} {ws ws' : List Cond} {rm : Room} {E : zE} {av : List Value} {w : va_W} {cc : ByteArray} {nL : Nat} {ret : Option FieldType} {own : String}
theorem zR.start {post : Int32 → Prop} {ty : FieldType} (hR : y.cls = own) (hy : plainFor y = true) (hw : ws = Cond.code y cc nL (some ty) :: ws') (hn : (lg_sl av).length ≤ nL) (hty : ∀ v, post v → narrow ty (.int v) = .int v)
    (body : ∀ (p : Program) (e : Env) (s : State) (m : MethodId) (args : Array Value) (below : List Frame) (meth : Method) (c : Code) (Q : State → Prop), CallFix p m c cc nL s args ws own →
      (∀ (v : Int32) (pc : Nat) (ls : Array Slot), decode cc pc = .ok (.ireturn, 1) → post v → W p l e rm s m args below meth c s.heap [] 0 0 Q (F0 m pc ls [.int v])) →
      va_P E.1 vwCl w s.heap → zG E s → ∀ ls : Array Slot, lv_has ls nL (lv_args 0 av) → W p l e rm s m args below meth c s.heap [] 0 0 Q (F0 m 0 ls [])) : zR l y ws rm E av w post := by
  refine va_MetF (cc := cc) (maxL := nL) (ret := some ty) hy hw ?_
  intro p e s m args below meth c s₁ B hml hv
  obtain ⟨rfl, hP, hG⟩ := hv
  have hown : s.vm.findClass own = some m.cls := hR ▸ findClass_of_methodNamed B.named
  rw [lg_entry_eq]
  exact body p e s m _ below meth c _ ⟨B.exec, B.bytes, hml, hown, atoms_spec (ws := ws) B.pre⟩ (fun v pc ls hd hp => W.zret B.exec B.bytes B.returns (hty v hp) (fun t ht hW => ⟨⟨v, rfl, hp⟩, ht⟩) (fun q hq => by cases hq) hd B.notSynchronized) hP hG _ (lv_entry av hn)
theorem zM.start {post : Int32 → va_W → Prop} {ty : FieldType} (hR : y.cls = own) (hy : plainFor y = true) (hw : ws = Cond.code y cc nL (some ty) :: ws') (hn : (lg_sl av).length ≤ nL) (hty : ∀ v w', post v w' → narrow ty (.int v) = .int v)
    (body : ∀ (p : Program) (e : Env) (s : State) (m : MethodId) (args : Array Value) (below : List Frame) (meth : Method) (c : Code) (Q : State → Prop) (A : Nat → Prop), CallFix p m c cc nL s args ws own →
      (∀ (v : Int32) (w' : va_W) (H : Heap) (locs : List Loc) (pc : Nat) (ls : Array Slot), va_P E.1 vwCl w' H → va_S A s.heap H locs → decode cc pc = .ok (.ireturn, 1) → w'.map (·.1) = w.map (·.1) → post v w' → W p l e rm s m args below meth c H locs 0 0 Q (F0 m pc ls [.int v])) →
      ∀ (H : Heap) (locs : List Loc), va_P E.1 vwCl w H → va_D A w → va_S A s.heap H locs → zG E s → ∀ ls : Array Slot, lv_has ls nL (lv_args 0 av) → W p l e rm s m args below meth c H locs 0 0 Q (F0 m 0 ls [])) : zM l y ws rm E av w post := by
  refine va_MetF (cc := cc) (maxL := nL) (ret := some ty) hy hw ?_
  intro p e s m args below meth c s₁ B hml hv
  obtain ⟨rfl, hP, hD, hG⟩ := hv
  have hown : s.vm.findClass own = some m.cls := hR ▸ findClass_of_methodNamed B.named
  rw [lg_entry_eq]
  exact body p e s m _ below meth c _ (zAd w) ⟨B.exec, B.bytes, hml, hown, atoms_spec (ws := ws) B.pre⟩ (fun v w' H locs pc ls hP hS hd he hp => W.zret B.exec B.bytes B.returns (hty v w' hp) (fun t ht hW => ⟨⟨v, w', rfl, hp, he, by rw [ht]; exact hP⟩, hS.F ht⟩) hS.2.2 hd B.notSynchronized) s.heap [] hP (zD_self hD) va_S.rf hG _ (lv_entry av hn)
theorem zV.start {post : va_W → Prop} (hR : y.cls = own) (hy : plainFor y = true) (hw : ws = Cond.code y cc nL none :: ws') (hn : (lg_sl av).length ≤ nL)
    (body : ∀ (p : Program) (e : Env) (s : State) (m : MethodId) (args : Array Value) (below : List Frame) (meth : Method) (c : Code) (Q : State → Prop) (A : Nat → Prop), CallFix p m c cc nL s args ws own →
      (∀ (w' : va_W) (H : Heap) (locs : List Loc) (pc : Nat) (ls : Array Slot), va_P E.1 vwCl w' H → va_S A s.heap H locs → decode cc pc = .ok (.return_, 1) → w'.map (·.1) = w.map (·.1) → post w' → W p l e rm s m args below meth c H locs 0 0 Q (F0 m pc ls [])) →
      ∀ (H : Heap) (locs : List Loc), va_P E.1 vwCl w H → va_D A w → va_S A s.heap H locs → zG E s → ∀ ls : Array Slot, lv_has ls nL (lv_args 0 av) → W p l e rm s m args below meth c H locs 0 0 Q (F0 m 0 ls [])) : zV l y ws rm E av w post := by
  refine va_MetF (cc := cc) (maxL := nL) (ret := none) hy hw ?_
  intro p e s m args below meth c s₁ B hml hv
  obtain ⟨rfl, hP, hD, hG⟩ := hv
  have hown : s.vm.findClass own = some m.cls := hR ▸ findClass_of_methodNamed B.named
  rw [lg_entry_eq]
  exact body p e s m _ below meth c _ (zAd w) ⟨B.exec, B.bytes, hml, hown, atoms_spec (ws := ws) B.pre⟩ (fun w' H locs pc ls hP hS hd he hp => W.vret B.exec B.bytes B.returns (fun t ht hW => ⟨⟨w', rfl, hp, he, by rw [ht]; exact hP⟩, hS.F ht⟩) hS.2.2 hd B.notSynchronized) s.heap [] hP (zD_self hD) va_S.rf hG _ (lv_entry av hn)
end Z
/-- a world with the cells at some places changed -/
def zput : List Nat → va_W → va_W → va_W
  | i :: is, x :: xs, ws => zput is xs (ws.set i x)
  | _, _, ws => ws
theorem zput_get : ∀ (is : List Nat) (w' ws : va_W), is.length = w'.length → ∀ (k : Nat) (q : Nat × va_E), (zput is w' ws)[k]? = some q → (∃ j : Nat, is[j]? = some k ∧ w'[j]? = some q) ∨ (k ∉ is ∧ ws[k]? = some q) := by
  intro is
  induction is with
  | nil =>
    intro w' ws hl k q h
    cases w' with
    | nil => exact Or.inr ⟨List.not_mem_nil, h⟩
    | cons x xs => simp at hl
  | cons i is ih =>
    intro w' ws hl k q h
    cases w' with
    | nil => simp at hl
    | cons x xs =>
      rcases ih xs (ws.set i x) (by simpa using hl) k q h with ⟨j, h1, h2⟩ | ⟨h1, h2⟩
      · exact Or.inl ⟨j + 1, by simpa using h1, by simpa using h2⟩
      · by_cases hk : k = i
        · subst hk
          refine Or.inl ⟨0, by simp, ?_⟩
          rw [List.getElem?_set] at h2
          simp only [if_true] at h2
          split at h2
          · simpa using h2
          · cases h2
        · refine Or.inr ⟨by simp [hk, h1], ?_⟩
          rwa [List.getElem?_set_ne (fun e => hk e.symm)] at h2
theorem z_join {A : Nat → Prop} {D : va_G} {cl : List vw_C} {ws w w' : va_W} {H H1 : Heap} (hP : va_P D cl ws H) (hD : va_D A ws) (is : List Nat) (hC : is.map (fun i => ws[i]?) = w.map some) (ha : w'.map (·.1) = w.map (·.1))
    (hk : ∀ q : Nat, q < H.size → ¬ zAd w q → H1[q]? = H[q]?) (hP1 : va_P D cl w' H1) : va_P D cl (zput is w' ws) H1 ∧ va_D A (zput is w' ws) := by
  have l1 : is.length = w.length := by simpa using congrArg List.length hC
  have l2 : w'.length = w.length := by simpa using congrArg List.length ha
  have hz := zput_get is w' ws (l1.trans l2.symm)
  have back : ∀ (k : Nat) (q : Nat × va_E), (zput is w' ws)[k]? = some q → ∃ q0, ws[k]? = some q0 ∧ q0.1 = q.1 := by
    intro k q h
    rcases hz k q h with ⟨j, h1, h2⟩ | ⟨-, h2⟩
    · have h3 : (w'.map (·.1))[j]? = some q.1 := by rw [List.getElem?_map, h2]; rfl
      rw [ha, List.getElem?_map] at h3
      cases hw : w[j]? with
      | none => rw [hw] at h3; cases h3
      | some q0 =>
        rw [hw] at h3
        have h4 : (is.map (fun i => ws[i]?))[j]? = some (some q0) := by rw [hC, List.getElem?_map, hw]; rfl
        rw [List.getElem?_map, h1] at h4
        exact ⟨q0, Option.some.inj h4, Option.some.inj h3⟩
    · exact ⟨q, h2, rfl⟩
  constructor
  · intro k q h
    rcases hz k q h with ⟨j, -, h2⟩ | ⟨h1, h2⟩
    · exact hP1 j q h2
    · have hl := (hP k q h2).lt
      refine (hP k q h2).kept (hk q.1 hl ?_)
      rintro ⟨j, e, hj⟩
      have h4 : (is.map (fun i => ws[i]?))[j]? = some (some (q.1, e)) := by rw [hC, List.getElem?_map, hj]; rfl
      rw [List.getElem?_map] at h4
      cases hi : is[j]? with
      | none => rw [hi] at h4; cases h4
      | some i =>
        rw [hi] at h4
        have h5 : ws[i]? = some (q.1, e) := Option.some.inj h4
        have h6 := hD.1 i k (q.1, e) q h5 h2 rfl
        subst h6
        exact h1 (List.mem_of_getElem? hi)
  · constructor
    · intro i j p q hi hj he
      obtain ⟨p0, a1, a2⟩ := back i p hi
      obtain ⟨q0, b1, b2⟩ := back j q hj
      exact hD.1 i j p0 q0 a1 b1 (by rw [a2, b2, he])
    · intro k q h
      obtain ⟨q0, a1, a2⟩ := back k q h
      rw [← a2]
      exact hD.2 k q0 a1
theorem zD_sub {A : Nat → Prop} {ws w : va_W} (hD : va_D A ws) (is : List Nat) (hn : va_nd is = true) (hC : is.map (fun i => ws[i]?) = w.map some) : va_D (fun _ => True) w := (hD.sub is hn hC).weaken (fun _ _ _ _ => trivial)
theorem zP_sub {D : va_G} {cl : List vw_C} {ws w : va_W} {H : Heap} (hP : va_P D cl ws H) (is : List Nat) (hC : is.map (fun i => ws[i]?) = w.map some) : va_P D cl w H := by
  intro k q hq
  have h1 : (is.map (fun i => ws[i]?))[k]? = some (some q) := by rw [hC, List.getElem?_map, hq]; rfl
  rw [List.getElem?_map] at h1
  cases hi : is[k]? with
  | none => rw [hi] at h1; cases h1
  | some i => rw [hi] at h1; exact hP i q (Option.some.inj h1)
theorem z_free {A : Nat → Prop} {ws w : va_W} (hD : va_D A ws) (is : List Nat) (hC : is.map (fun i => ws[i]?) = w.map some) : ∀ q, zAd w q → A q := by
  rintro q ⟨k, e, hk⟩
  have h1 : (is.map (fun i => ws[i]?))[k]? = some (some (q, e)) := by rw [hC, List.getElem?_map, hk]; rfl
  rw [List.getElem?_map] at h1
  cases hi : is[k]? with
  | none => rw [hi] at h1; cases h1
  | some i => rw [hi] at h1; exact hD.2 i (q, e) (Option.some.inj h1)
section ZC
variable {p : Program} {l : Launch} {e : Env} {R : Room} {s : State} {m : MethodId} {args : Array Value} {below : List Frame} {meth : Method} {c : Code} {H : Heap} {locs : List Loc} {cells slots : Nat} {Q : State → Prop}
variable {pc : Nat} {ls : Array Slot} {rest st0 : List Value} {a : Array Value} {A : Nat → Prop} {H0 : Heap}
/-- what a call comes to, a read's -/
theorem z_rd {post : Int32 → Prop} {free : Addr → Prop} (hfree : ∀ q, ¬ free q) (hr : va_Run p l e R s m args below meth c H locs cells slots 0 0 (F0 m pc ls st0) rest (zQr post a) free)
    (kk : ∀ r : Int32, post r → W p l e R s m args below meth c H locs cells slots Q (F0 m (pc + 3) ls (.int r :: rest))) : W p l e R s m args below meth c H locs cells slots Q (F0 m pc ls st0) := by
  intro T hT X
  obtain ⟨v, st₀, t, T', L, h0, X', hL, e1, e2, ⟨⟨r, hv, hp⟩, hz⟩, st⟩ := hr T hT X
  cases hv
  have hnil : L = [] := by
    cases L with
    | nil => rfl
    | cons q qs => exact absurd (hL q List.mem_cons_self) (hfree _)
  subst hnil
  rw [List.append_nil] at X'
  obtain ⟨t2, a1, b1⟩ := kk r hp T' (by rw [e1, hz, h0]) X'
  exact ⟨t2, st t2 a1, b1⟩
theorem z_md {E : zE} {w ws : va_W} {post : Int32 → va_W → Prop} (is : List Nat) (hr : va_Run p l e R s m args below meth c H locs cells slots 0 0 (F0 m pc ls st0) rest (zQm E w post a) (zAd w)) (hP : va_P E.1 vwCl ws H) (hD : va_D A ws) (hS : va_S A H0 H locs) (hC : is.map (fun i => ws[i]?) = w.map some)
    (kk : ∀ (r : Int32) (w' : va_W) (H1 : Heap) (locs1 : List Loc), post r w' → va_P E.1 vwCl (zput is w' ws) H1 → va_D A (zput is w' ws) → va_S A H0 H1 locs1 → W p l e R s m args below meth c H1 locs1 cells slots Q (F0 m (pc + 3) ls (.int r :: rest))) : W p l e R s m args below meth c H locs cells slots Q (F0 m pc ls st0) := by
  have hf := z_free hD is hC
  intro T hT X
  obtain ⟨v, st₀, t, T', L, h0, X', hL, e1, e2, ⟨⟨r, w', hv, hp, ha, hP1⟩, hz, hk⟩, st⟩ := hr T hT X
  cases hv
  rw [h0] at hz hk
  rw [← e1] at hz hk hP1
  obtain ⟨j1, j2⟩ := z_join hP hD is hC ha (fun q h1 h2 => hk q h1 h2) hP1
  obtain ⟨t2, a1, b1⟩ := kk r w' T'.heap (locs ++ L) hp j1 j2
    ⟨Nat.le_trans hS.1 hz, fun q h1 h2 => by rw [hk q (Nat.lt_of_lt_of_le h1 hS.1) (fun z => h2 (hf q z))]; exact hS.2.1 q h1 h2, fun q hq => by
      rcases List.mem_append.mp hq with h | h
      · exact hS.2.2 q h
      · exact hf _ (hL q h)⟩ T' rfl X'
  exact ⟨t2, st t2 a1, b1⟩
theorem z_vd {E : zE} {w ws : va_W} {post : va_W → Prop} (is : List Nat) (hr : va_Run p l e R s m args below meth c H locs cells slots 0 0 (F0 m pc ls st0) rest (zQv E w post a) (zAd w)) (hP : va_P E.1 vwCl ws H) (hD : va_D A ws) (hS : va_S A H0 H locs) (hC : is.map (fun i => ws[i]?) = w.map some)
    (kk : ∀ (w' : va_W) (H1 : Heap) (locs1 : List Loc), post w' → va_P E.1 vwCl (zput is w' ws) H1 → va_D A (zput is w' ws) → va_S A H0 H1 locs1 → W p l e R s m args below meth c H1 locs1 cells slots Q (F0 m (pc + 3) ls rest)) : W p l e R s m args below meth c H locs cells slots Q (F0 m pc ls st0) := by
  have hf := z_free hD is hC
  intro T hT X
  obtain ⟨v, st₀, t, T', L, h0, X', hL, e1, e2, ⟨⟨w', hv, hp, ha, hP1⟩, hz, hk⟩, st⟩ := hr T hT X
  cases hv
  rw [h0] at hz hk
  rw [← e1] at hz hk hP1
  obtain ⟨j1, j2⟩ := z_join hP hD is hC ha (fun q h1 h2 => hk q h1 h2) hP1
  obtain ⟨t2, a1, b1⟩ := kk w' T'.heap (locs ++ L) hp j1 j2
    ⟨Nat.le_trans hS.1 hz, fun q h1 h2 => by rw [hk q (Nat.lt_of_lt_of_le h1 hS.1) (fun z => h2 (hf q z))]; exact hS.2.1 q h1 h2, fun q hq => by
      rcases List.mem_append.mp hq with h | h
      · exact hS.2.2 q h
      · exact hf _ (hL q h)⟩ T' rfl X'
  exact ⟨t2, st t2 a1, b1⟩
end ZC
/-- what a call's start asks for -/
theorem z_blindR {E : zE} {av : List Value} {w : va_W} : FrameBlind (va_Pc av (fun U => va_P E.1 vwCl w U.heap ∧ zG E U)) := fun _ _ _ _ h => ⟨h.1, h.2.1, h.2.2.call⟩
theorem z_blindM {E : zE} {av : List Value} {w : va_W} : FrameBlind (va_Pc av (fun U => va_P E.1 vwCl w U.heap ∧ va_D (fun _ => True) w ∧ zG E U)) := fun _ _ _ _ h => ⟨h.1, h.2.1, h.2.2.1, h.2.2.2.call⟩
theorem z_preR {E : zE} {av : List Value} {w : va_W} {s : State} {H : Heap} (hP : va_P E.1 vwCl w H) (hG : zG E s) : PreS s H (va_Pc av (fun U => va_P E.1 vwCl w U.heap ∧ zG E U)) av := ⟨z_blindR, fun U hU hW => ⟨rfl, by rw [hU]; exact hP, hG.warm hW⟩⟩
theorem z_preM {E : zE} {av : List Value} {w : va_W} {s : State} {H : Heap} (hP : va_P E.1 vwCl w H) (hD : va_D (fun _ => True) w) (hG : zG E s) : PreS s H (va_Pc av (fun U => va_P E.1 vwCl w U.heap ∧ va_D (fun _ => True) w ∧ zG E U)) av := ⟨z_blindM, fun U hU hW => ⟨rfl, by rw [hU]; exact hP, hD, hG.warm hW⟩⟩
theorem z_preRV {E : zE} {As : List Value} {w : va_W} {s : State} {H : Heap} {b : Nat} {C : String} (hr : ∃ cell : Cell, H[b]? = some cell ∧ cell.vm.isStatics = false ∧ s.vm.findClass C = some cell.cls) (hP : va_P E.1 vwCl w H) (hG : zG E s) : PreV s H C b (va_Pc (.ref b :: As) (fun U => va_P E.1 vwCl w U.heap ∧ zG E U)) As := ⟨z_blindR, hr, fun U hU hW => ⟨rfl, by rw [hU]; exact hP, hG.warm hW⟩⟩
theorem z_preMV {E : zE} {As : List Value} {w : va_W} {s : State} {H : Heap} {b : Nat} {C : String} (hr : ∃ cell : Cell, H[b]? = some cell ∧ cell.vm.isStatics = false ∧ s.vm.findClass C = some cell.cls) (hP : va_P E.1 vwCl w H) (hD : va_D (fun _ => True) w) (hG : zG E s) : PreV s H C b (va_Pc (.ref b :: As) (fun U => va_P E.1 vwCl w U.heap ∧ va_D (fun _ => True) w ∧ zG E U)) As := ⟨z_blindM, hr, fun U hU hW => ⟨rfl, by rw [hU]; exact hP, hD, hG.warm hW⟩⟩
