/-! ===== own rows, second part: bits, min and max, copies, answers that are truths ===== -/
theorem z_nar {P Q : Prop} : ∀ v : Int32, ((v = nI 1 ∧ P) ∨ (v = nI 0 ∧ Q)) → narrow .boolean (.int v) = .int v := by
  rintro v (⟨rfl, _⟩ | ⟨rfl, _⟩) <;> rfl
theorem z_narM {P Q : Prop} {X : va_W} : ∀ (v : Int32) (w' : va_W), (((v = nI 1 ∧ P) ∨ (v = nI 0 ∧ Q)) ∧ w' = X) → narrow .boolean (.int v) = .int v := by
  rintro v w' ⟨⟨rfl, _⟩ | ⟨rfl, _⟩, _⟩ <;> rfl
theorem z_tab (x : Int32) (n : Nat) (hn : n < 2147483648) : (x.toInt < 0 ∨ (n : Int) < x.toInt) ∨ ∃ k, k ≤ n ∧ x = nI k := by
  by_cases h : x.toInt < 0 ∨ (n : Int) < x.toInt
  · exact Or.inl h
  · refine Or.inr ⟨x.toInt.toNat, by omega, ?_⟩
    apply Int32.toInt_inj.mp
    rw [nI_toInt (by omega)]
    omega
theorem z_ge {x : Int32} {a b : Nat} (ha : a < 2147483648) (hb : b < 2147483648) (h1 : nI a ≤ x) (h2 : x ≤ nI b) : ∃ k, a ≤ k ∧ k ≤ b ∧ x = nI k := by
  rw [Int32.le_iff_toInt_le, nI_toInt (by omega)] at h1 h2
  refine ⟨x.toInt.toNat, by omega, by omega, ?_⟩
  apply Int32.toInt_inj.mp
  rw [nI_toInt (by omega)]
  omega
theorem z_in {a b k : Nat} (hb : b < 2147483648) (h1 : a ≤ k) (h2 : k ≤ b) : nI a ≤ nI k ∧ nI k ≤ nI b := ⟨nI_le h1 (by omega), nI_le h2 (by omega)⟩
theorem z_inj {a b : Nat} (ha : a < 2147483648) (hb : b < 2147483648) (h : nI a = nI b) : a = b := (nI_eq (by omega) (by omega)).mp h
theorem nI_or (a b : Nat) : nI a ||| nI b = nI (a ||| b) := Int32.toBitVec.inj (by
  show BitVec.ofNat 32 a ||| BitVec.ofNat 32 b = BitVec.ofNat 32 (a ||| b)
  exact BitVec.ofNat_or.symm)
theorem nI_and (a b : Nat) : nI a &&& nI b = nI (a &&& b) := Int32.toBitVec.inj (by
  show BitVec.ofNat 32 a &&& BitVec.ofNat 32 b = BitVec.ofNat 32 (a &&& b)
  exact BitVec.ofNat_and.symm)
theorem nI_xor (a b : Nat) : nI a ^^^ nI b = nI (a ^^^ b) := Int32.toBitVec.inj (by
  show BitVec.ofNat 32 a ^^^ BitVec.ofNat 32 b = BitVec.ofNat 32 (a ^^^ b)
  exact BitVec.ofNat_xor.symm)
theorem nI_shl {k : Nat} (hk : k < 31) : nI 1 <<< (nI k &&& 31) = nI (2 ^ k) := by
  have e : nI k &&& 31 = nI k := by
    rw [show (31 : Int32) = nI 31 from rfl, nI_and, show (31 : Nat) = 2 ^ 5 - 1 from rfl, Nat.and_two_pow_sub_one_eq_mod]
    congr 1
    omega
  rw [e]
  have hall : ∀ k, k < 31 → nI 1 <<< nI k = nI (2 ^ k) := by decide
  exact hall k hk
def z_cpy (f g : Nat → Nat) (n : Nat) : Nat → Nat := fun i => if i < n then f i else g i
theorem z_arrV {c : ClassId} {n : Nat} {f g : Nat → Value} (h : ∀ i, i < n → f i = g i) : arrV c n f = arrV c n g := by
  unfold arrV
  rw [show (fun j : Fin n => f j.val) = (fun j : Fin n => g j.val) from funext (fun j => h j.1 j.2)]
theorem z_cellI {c : ClassId} {n : Nat} {f g : Nat → Int32} (h : ∀ i, i < n → f i = g i) : vp_cell c (n, .inl f) = vp_cell c (n, .inl g) := by
  show arrCell c n f = arrCell c n g
  unfold arrCell arrSlots
  rw [show (fun j : Fin n => Value.int (f j.val)) = (fun j : Fin n => Value.int (g j.val)) from funext (fun j => by rw [h j.1 j.2])]
section ZB
variable {p : Program} {l : Launch} {e : Env} {R : Room} {s : State} {m : MethodId} {args : Array Value} {below : List Frame} {meth : Method} {c : Code} {H : Heap} {locs : List Loc} {cells slots : Nat} {Q : State → Prop}
variable {cc : ByteArray} {pc : Nat} {ls : Array Slot} {rest : List Value} {E : zE} {ws : va_W} {A : Nat → Prop} {H0 : Heap} {a0 a1 : Nat}
theorem z_ior (hx : p.tables.exec = Jvm.exec) (hb : c.code = cc) {a b : Nat} (hdg : decode cc pc = .ok (.ior, 1)) (k : W p l e R s m args below meth c H locs cells slots Q (F0 m (pc + 1) ls (.int (nI (a ||| b)) :: rest))) : W p l e R s m args below meth c H locs cells slots Q (F0 m pc ls (.int (nI b) :: .int (nI a) :: rest)) := lv_ior hx hb hdg (by rw [nI_or]; exact k)
theorem z_iand (hx : p.tables.exec = Jvm.exec) (hb : c.code = cc) {a b : Nat} (hdg : decode cc pc = .ok (.iand, 1)) (k : W p l e R s m args below meth c H locs cells slots Q (F0 m (pc + 1) ls (.int (nI (a &&& b)) :: rest))) : W p l e R s m args below meth c H locs cells slots Q (F0 m pc ls (.int (nI b) :: .int (nI a) :: rest)) := lv_iand hx hb hdg (by rw [nI_and]; exact k)
theorem z_ixor (hx : p.tables.exec = Jvm.exec) (hb : c.code = cc) {a b : Nat} (hdg : decode cc pc = .ok (.ixor, 1)) (k : W p l e R s m args below meth c H locs cells slots Q (F0 m (pc + 1) ls (.int (nI (a ^^^ b)) :: rest))) : W p l e R s m args below meth c H locs cells slots Q (F0 m pc ls (.int (nI b) :: .int (nI a) :: rest)) := lv_ixor hx hb hdg (by rw [nI_xor]; exact k)
/-- 1 << b -/
theorem z_ishl (hx : p.tables.exec = Jvm.exec) (hb : c.code = cc) {b : Nat} (hdg : decode cc pc = .ok (.ishl, 1)) (hb' : b < 31) (k : W p l e R s m args below meth c H locs cells slots Q (F0 m (pc + 1) ls (.int (nI (2 ^ b)) :: rest))) : W p l e R s m args below meth c H locs cells slots Q (F0 m pc ls (.int (nI b) :: .int (nI 1) :: rest)) := lv_ishl hx hb hdg (by rw [nI_shl hb']; exact k)
theorem z_mmin (hexec : p.tables.exec = Jvm.exec) (hb : c.code = cc) (hml : c.maxLocals = ls.size) {own : String} {index : Nat} (hown : s.vm.findClass own = some m.cls) (hlink : (Cond.methodLink own index Lib.Math.min.name).before args s = true) (hstat : (Cond.static Lib.Math.min.name).before args s = true) (hini : (Cond.initialized "java/lang/Math").before args s = true) (hcode : (Cond.code Lib.Math.min.name Lib.Math.min.code 2 (some .int)).before args s = true)
    (hframes : 1 ≤ R.frames) (hlocals : (rest.map fun v => v.category).sum + 13 ≤ R.locals) (hc : cells ≤ R.cells) (hs : slots ≤ R.slots) {a b : Nat} (ha : a < 2147483648) (hb' : b < 2147483648) (hdg : decode cc pc = .ok (.invokestatic index, 3))
    (kk : W p l e R s m args below meth c H locs cells slots Q (F0 m (pc + 3) ls (.int (nI (min a b)) :: rest))) : W p l e R s m args below meth c H locs cells slots Q (F0 m pc ls (.int (nI b) :: .int (nI a) :: rest)) := by
  refine va_mmin hexec hb hml hown hlink hstat hini hcode hframes hlocals hc hs hdg ?_
  have e : (if nI b < nI a then nI b else nI a) = nI (min a b) := by
    by_cases h : b < a
    · rw [if_pos (nI_lt h (by omega)), Nat.min_eq_right (by omega)]
    · rw [if_neg (fun q => h ((nI_ltI (by omega) (by omega)).mp q)), Nat.min_eq_left (by omega)]
  rw [e]
  exact kk
theorem z_mmax (hexec : p.tables.exec = Jvm.exec) (hb : c.code = cc) (hml : c.maxLocals = ls.size) {own : String} {index : Nat} (hown : s.vm.findClass own = some m.cls) (hlink : (Cond.methodLink own index Lib.Math.max.name).before args s = true) (hstat : (Cond.static Lib.Math.max.name).before args s = true) (hini : (Cond.initialized "java/lang/Math").before args s = true) (hcode : (Cond.code Lib.Math.max.name Lib.Math.max.code 2 (some .int)).before args s = true)
    (hframes : 1 ≤ R.frames) (hlocals : (rest.map fun v => v.category).sum + 13 ≤ R.locals) (hc : cells ≤ R.cells) (hs : slots ≤ R.slots) {a b : Nat} (ha : a < 2147483648) (hb' : b < 2147483648) (hdg : decode cc pc = .ok (.invokestatic index, 3))
    (kk : W p l e R s m args below meth c H locs cells slots Q (F0 m (pc + 3) ls (.int (nI (max a b)) :: rest))) : W p l e R s m args below meth c H locs cells slots Q (F0 m pc ls (.int (nI b) :: .int (nI a) :: rest)) := by
  refine va_mmax hexec hb hml hown hlink hstat hini hcode hframes hlocals hc hs hdg ?_
  have e : (if nI a < nI b then nI b else nI a) = nI (max a b) := by
    by_cases h : a < b
    · rw [if_pos (nI_lt h (by omega)), Nat.max_eq_right (by omega)]
    · rw [if_neg (fun q => h ((nI_ltI (by omega) (by omega)).mp q)), Nat.max_eq_left (by omega)]
  rw [e]
  exact kk
/-- a whole row of ints is copied into one of the same length -/
theorem z_copy (hexec : p.tables.exec = Jvm.exec) (hb : c.code = cc) (hml : c.maxLocals = ls.size) {own : String} {index : Nat} (hown : s.vm.findClass own = some m.cls) (hlink : (Cond.methodLink own index arraycopyName).before args s = true) (hnat : (Cond.native arraycopyName).before args s = true) (hstat : (Cond.static arraycopyName).before args s = true) (hini : (Cond.initialized "java/lang/System").before args s = true)
    (hG : zG E s) (hP : va_P E.1 vwCl ws H) (hD : va_D A ws) (hS : va_S A H0 H locs) (q0 q1 : Nat) {n : Nat} {f g : Nat → Nat} (ha0 : ws[q0]? = some (a0, .inl (E.2.1, n, .inl (fun i => nI (f i))))) (ha1 : ws[q1]? = some (a1, .inl (E.2.1, n, .inl (fun i => nI (g i))))) (hn : n < 2147483648)
    (hframes : 1 ≤ R.frames) (hlocals : (rest.map fun v => v.category).sum + (nativeFrameWords "java/lang/System" "arraycopy" 5 + 11) ≤ R.locals) (hdg : decode cc pc = .ok (.invokestatic index, 3))
    (kk : ∀ (H1 : Heap) (locs1 : List Loc), va_P E.1 vwCl (ws.set q1 (a1, .inl (E.2.1, n, .inl (fun i => nI (f i))))) H1 → va_D A (ws.set q1 (a1, .inl (E.2.1, n, .inl (fun i => nI (f i))))) → va_S A H0 H1 locs1 → W p l e R s m args below meth c H1 locs1 cells slots Q (F0 m (pc + 3) ls rest)) : W p l e R s m args below meth c H locs cells slots Q (F0 m pc ls (.int (nI n) :: .int (nI 0) :: .ref a1 :: .int (nI 0) :: .ref a0 :: rest)) := by
  have c0 : (nI 0).toNatClampNeg = 0 := z_clamp (by omega)
  have cn : (nI n).toNatClampNeg = n := z_clamp hn
  refine va_copyi hexec hb hml hown hlink hnat hstat hini hG.1 hP hD hS q0 q1 0 0 ha0 ha1 rfl rfl rfl (nI_pos (by omega)) (nI_pos (by omega)) (nI_pos (by omega)) (by rw [c0, cn]; omega) (by rw [c0, cn]; omega) (fun i _ => rfl) hframes hlocals hdg (fun H1 locs1 hP1 hD1 hS1 => ?_)
  rw [c0, cn] at hP1 hD1
  have hl : q1 < ws.length := (List.getElem?_eq_some_iff.mp ha1).1
  refine kk H1 locs1 ?_ ?_ hS1
  · intro k q hk
    by_cases h : k = q1
    · subst h
      rw [List.getElem?_set_self hl] at hk
      cases hk
      have h2 := hP1 k _ (List.getElem?_set_self hl)
      simp only [va_at] at h2 ⊢
      rw [h2]
      congr 1
      exact z_cellI (fun i hi => by simp only [va_cpy]; rw [if_pos ⟨Nat.zero_le _, by omega⟩]; simp)
    · rw [List.getElem?_set_ne (fun q => h q.symm)] at hk
      exact hP1 k q (by rw [List.getElem?_set_ne (fun q => h q.symm)]; exact hk)
  · exact hD.set ha1
theorem z_cast (hx : p.tables.exec = Jvm.exec) (hb : c.code = cc) (hG : zG E s) (hP : va_P E.1 vwCl ws H) (hD : va_D A ws) (hS : va_S A H0 H locs) (q0 : Nat) {n a : Nat} {f : Nat → Nat} (ha : ws[q0]? = some (a, .inl (E.2.2.1, n, .inl (fun i => nI (f i))))) {j v : Nat} {g : Nat → Nat} (hj : j < n) (hn : n < 2147483648) (hg : va_up f j v = g) (hv : v ≤ 126) (hdg : decode cc pc = .ok (.castore, 1))
    (kk : ∀ (H1 : Heap) (locs1 : List Loc), va_P E.1 vwCl (ws.set q0 (a, .inl (E.2.2.1, n, .inl (fun i => nI (g i))))) H1 → va_D A (ws.set q0 (a, .inl (E.2.2.1, n, .inl (fun i => nI (g i))))) → va_S A H0 H1 locs1 → W p l e R s m args below meth c H1 locs1 cells slots Q (F0 m (pc + 1) ls rest)) : W p l e R s m args below meth c H locs cells slots Q (F0 m pc ls (.int (nI v) :: .int (nI j) :: .ref a :: rest)) := by
  subst hg
  have hall : ∀ v, v < 127 → vp_nar .char (nI v) = nI v := by decide +kernel
  have hf : upd (fun i => nI (f i)) (nI j).toNatClampNeg (vp_nar .char (nI v)) = fun i => nI (va_up f j v i) := by
    funext i
    rw [z_clamp (by omega), hall v (by omega)]
    simp only [upd, va_up]
    split <;> rfl
  refine va_cast hx hb hG.1 hP hD hS q0 1 ha rfl (vp_in_nI hj (by omega)) hdg ?_
  rw [hf]
  exact kk
theorem z_i2c (hx : p.tables.exec = Jvm.exec) (hb : c.code = cc) {v : Nat} (hdg : decode cc pc = .ok (.i2c, 1)) (hv : v ≤ 126) (k : W p l e R s m args below meth c H locs cells slots Q (F0 m (pc + 1) ls (.int (nI v) :: rest))) : W p l e R s m args below meth c H locs cells slots Q (F0 m pc ls (.int (nI v) :: rest)) := by
  have hall : ∀ v, v < 127 → ((nI v).toUInt32 % 65536).toInt32 = nI v := by decide +kernel
  exact lv_i2c hx hb hdg (hall v (by omega)) k
end ZB
