/-! ===== a read that answers a cell; rows of states ===== -/
def zQq (post : Nat → Prop) : Array Value → State → Outcome → State → Prop := fun _ st oc t => (∃ a : Nat, oc = .returned (some (.ref a)) ∧ post a) ∧ t.heap = st.heap
def zRq (l : Launch) (y : MethodName) (ws : List Cond) (rm : Room) (E : zE) (av : List Value) (w : va_W) (post : Nat → Prop) : Prop :=
  Met l y ws rm (va_Pc av (fun U => va_P E.1 vwCl w U.heap ∧ zG E U)) (zQq post) 0 0 (fun _ => False)
theorem zRq.start {l : Launch} {y : MethodName} {ws ws' : List Cond} {rm : Room} {E : zE} {av : List Value} {w : va_W} {cc : ByteArray} {nL : Nat} {own cn : String} {post : Nat → Prop} (hR : y.cls = own) (hy : plainFor y = true) (hw : ws = Cond.code y cc nL (some (.object cn)) :: ws') (hn : (lg_sl av).length ≤ nL)
    (body : ∀ (p : Program) (e : Env) (s : State) (m : MethodId) (args : Array Value) (below : List Frame) (meth : Method) (c : Code) (Q : State → Prop), CallFix p m c cc nL s args ws own →
      (∀ (a : Nat) (pc : Nat) (ls : Array Slot), decode cc pc = .ok (.areturn, 1) → post a → W p l e rm s m args below meth c s.heap [] 0 0 Q (F0 m pc ls [.ref a])) →
      va_P E.1 vwCl w s.heap → zG E s → ∀ ls : Array Slot, lv_has ls nL (lv_args 0 av) → W p l e rm s m args below meth c s.heap [] 0 0 Q (F0 m 0 ls [])) : zRq l y ws rm E av w post := by
  refine va_MetF (cc := cc) (maxL := nL) (ret := some (.object cn)) hy hw ?_
  intro p e s m args below meth c s₁ B hml hv
  obtain ⟨rfl, hP, hG⟩ := hv
  have hown : s.vm.findClass own = some m.cls := hR ▸ findClass_of_methodNamed B.named
  rw [lg_entry_eq]
  exact body p e s m _ below meth c _ ⟨B.exec, B.bytes, hml, hown, atoms_spec (ws := ws) B.pre⟩ (fun a pc ls hd hp => W.aret B.exec B.bytes B.returns (Or.inl ⟨cn, rfl⟩) (Or.inr ⟨a, rfl⟩) (fun t ht hW => ⟨⟨a, rfl, hp⟩, ht⟩) (fun q hq => by cases hq) hd B.notSynchronized) hP hG _ (lv_entry av hn)
section ZQ
variable {p : Program} {l : Launch} {e : Env} {R : Room} {s : State} {m : MethodId} {args : Array Value} {below : List Frame} {meth : Method} {c : Code} {H : Heap} {locs : List Loc} {cells slots : Nat} {Q : State → Prop}
variable {cc : ByteArray} {pc : Nat} {ls : Array Slot} {rest st0 : List Value} {a : Array Value} {E : zE} {ws : va_W}
theorem z_rq {post : Nat → Prop} {free : Addr → Prop} (hfree : ∀ q, ¬ free q) (hr : va_Run p l e R s m args below meth c H locs cells slots 0 0 (F0 m pc ls st0) rest (zQq post a) free)
    (kk : ∀ r : Nat, post r → W p l e R s m args below meth c H locs cells slots Q (F0 m (pc + 3) ls (.ref r :: rest))) : W p l e R s m args below meth c H locs cells slots Q (F0 m pc ls st0) := by
  intro T hT X
  obtain ⟨v, st₀, t, T', L, h0, X', hL, e1, e2, ⟨⟨r, hv, hp⟩, hz⟩, st⟩ := hr T hT X
  cases hv
  have hnil : L = [] := by
    cases L with
    | nil => rfl
    | cons q qs => exact absurd (hL q List.mem_cons_self) (hfree _)
  subst hnil
  rw [List.append_nil] at X'
  obtain ⟨t2, a1, b1⟩ := kk r hp T' (by rw [e1, hz, h0]) X'
  exact ⟨t2, st t2 a1, b1⟩
theorem z_aald (hx : p.tables.exec = Jvm.exec) (hb : c.code = cc) (hG : zG E s) (hP : va_P E.1 vwCl ws H) (q0 : Nat) {n ra : Nat} {f : Nat → Option Nat} (ha : ws[q0]? = some (ra, .inl (E.2.2.2, n, .inr (.inr (.inr (.inr f)))))) {j v : Nat} (hj : j < n) (hn : n < 2147483648) (hv : f j = some v) (hdg : decode cc pc = .ok (.aaload, 1))
    (kk : W p l e R s m args below meth c H locs cells slots Q (F0 m (pc + 1) ls (.ref v :: rest))) : W p l e R s m args below meth c H locs cells slots Q (F0 m pc ls (.int (nI j) :: .ref ra :: rest)) := va_aldq hx hb hG.1 hP q0 2 ha rfl (vp_in_nI hj (by omega)) hdg (by rw [z_clamp (by omega), hv]; exact kk)
end ZQ
def rr4 (a b c d : Nat) : Nat → Option Nat := fun i => match i with
  | 0 => some a
  | 1 => some b
  | 2 => some c
  | _ => some d
-- a state's rows and numbers, by their places
def mkX (x0 x1 x2 x3 x4 x5 x6 x7 x8 x9 x10 x11 x12 : Nat → Nat) (n sz tk lo : Nat) : Nat → Nat → Nat := fun k => match k with
  | 0 => x0
  | 1 => x1
  | 2 => x2
  | 3 => x3
  | 4 => x4
  | 5 => x5
  | 6 => x6
  | 7 => x7
  | 8 => x8
  | 9 => x9
  | 10 => x10
  | 11 => x11
  | 12 => x12
  | _ => fun i => match i with
    | 0 => n
    | 1 => sz
    | 2 => tk
    | _ => lo
-- the history: which row is written, how many rows count, which is the oldest
def kpI (old hz : Nat) : Nat := if hz < 4 then (old + hz) % 4 else old
def kpO (old hz : Nat) : Nat := if hz < 4 then old else (old + 1) % 4
def kpS (hz : Nat) : Nat := if hz < 4 then hz + 1 else 4
def kpX (k j : Nat) (X Y : Nat → Nat → Nat) : Nat → Nat → Nat := if k = j then X else Y
theorem kpX_t {k j : Nat} {X Y : Nat → Nat → Nat} (h : k = j) : X = kpX k j X Y := by unfold kpX; rw [if_pos h]
theorem kpX_f {k j : Nat} {X Y : Nat → Nat → Nat} (h : k ≠ j) : Y = kpX k j X Y := by unfold kpX; rw [if_neg h]
/-- what the rows hold behind keep -/
def KP (old hz : Nat) (X XA XB XC XD A B C D : Nat → Nat → Nat) : Prop := A = kpX (kpI old hz) 0 X XA ∧ B = kpX (kpI old hz) 1 X XB ∧ C = kpX (kpI old hz) 2 X XC ∧ D = kpX (kpI old hz) 3 X XD
def gbX (k : Nat) (A B C D : Nat → Nat → Nat) : Nat → Nat → Nat := if k = 0 then A else if k = 1 then B else if k = 2 then C else D
theorem KP_of {old hz j : Nat} {X XA XB XC XD A B C D : Nat → Nat → Nat} (hk : kpI old hz = j) (hj : (j = 0 ∧ A = X ∧ B = XB ∧ C = XC ∧ D = XD) ∨ (j = 1 ∧ A = XA ∧ B = X ∧ C = XC ∧ D = XD) ∨ (j = 2 ∧ A = XA ∧ B = XB ∧ C = X ∧ D = XD) ∨ (j = 3 ∧ A = XA ∧ B = XB ∧ C = XC ∧ D = X)) : KP old hz X XA XB XC XD A B C D := by
  unfold KP
  rw [hk]
  rcases hj with ⟨rfl, rfl, rfl, rfl, rfl⟩ | ⟨rfl, rfl, rfl, rfl, rfl⟩ | ⟨rfl, rfl, rfl, rfl, rfl⟩ | ⟨rfl, rfl, rfl, rfl, rfl⟩ <;> simp [kpX]
