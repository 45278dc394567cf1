/-! ===== the law's small methods ===== -/
theorem z_and31 (v : Int32) : ∃ m, m < 2147483648 ∧ v &&& nI 2147483647 = nI m := by
  refine ⟨(v.toBitVec &&& 2147483647#32).toNat, ?_, ?_⟩
  · rw [BitVec.toNat_and]
    exact Nat.lt_of_le_of_lt Nat.and_le_right (by decide)
  · apply Int32.toBitVec_inj.mp
    show v.toBitVec &&& (2147483647#32) = BitVec.ofNat 32 _
    rw [BitVec.ofNat_toNat, BitVec.setWidth_eq]
def zQl (post : Int64 → Prop) : Array Value → State → Outcome → State → Prop := fun _ st oc t => (∃ r : Int64, oc = .returned (some (.long r)) ∧ post r) ∧ t.heap = st.heap
def zRl (l : Launch) (y : MethodName) (ws : List Cond) (rm : Room) (E : zE) (av : List Value) (post : Int64 → Prop) : Prop :=
  Met l y ws rm (va_Pc av (fun U => va_P E.1 vwCl [] U.heap ∧ zG E U)) (zQl post) 0 0 (fun _ => False)
theorem zRl.start {l : Launch} {y : MethodName} {ws ws' : List Cond} {rm : Room} {E : zE} {av : List Value} {cc : ByteArray} {nL : Nat} {own : String} {post : Int64 → Prop} (hR : y.cls = own) (hy : plainFor y = true) (hw : ws = Cond.code y cc nL (some .long) :: ws') (hn : (lg_sl av).length ≤ nL)
    (body : ∀ (p : Program) (e : Env) (s : State) (m : MethodId) (args : Array Value) (below : List Frame) (meth : Method) (c : Code) (Q : State → Prop), CallFix p m c cc nL s args ws own →
      (∀ (v : Int64) (pc : Nat) (ls : Array Slot), decode cc pc = .ok (.lreturn, 1) → post v → W p l e rm s m args below meth c s.heap [] 0 0 Q (F0 m pc ls [.long v])) →
      ∀ ls : Array Slot, lv_has ls nL (lv_args 0 av) → W p l e rm s m args below meth c s.heap [] 0 0 Q (F0 m 0 ls [])) : zRl l y ws rm E av post := by
  refine va_MetF (cc := cc) (maxL := nL) (ret := some .long) hy hw ?_
  intro p e s m args below meth c s₁ B hml hv
  obtain ⟨rfl, -, hG⟩ := hv
  have hown : s.vm.findClass own = some m.cls := hR ▸ findClass_of_methodNamed B.named
  rw [lg_entry_eq]
  exact body p e s m _ below meth c _ ⟨B.exec, B.bytes, hml, hown, atoms_spec (ws := ws) B.pre⟩ (fun v pc ls hd hp => W.lret B.exec B.bytes B.returns (fun t ht hW => ⟨⟨v, rfl, hp⟩, ht⟩) (fun q hq => by cases hq) hd B.notSynchronized) _ (lv_entry av hn)
section ZL
variable {p : Program} {l : Launch} {e : Env} {R : Room} {s : State} {m : MethodId} {args : Array Value} {below : List Frame} {meth : Method} {c : Code} {H : Heap} {locs : List Loc} {cells slots : Nat} {Q : State → Prop}
variable {pc : Nat} {ls : Array Slot} {rest st0 : List Value} {a : Array Value}
theorem z_rdl {post : Int64 → Prop} {free : Addr → Prop} (hfree : ∀ q, ¬ free q) (hr : va_Run p l e R s m args below meth c H locs cells slots 0 0 (F0 m pc ls st0) rest (zQl post a) free)
    (kk : ∀ r : Int64, post r → W p l e R s m args below meth c H locs cells slots Q (F0 m (pc + 3) ls (.long r :: rest))) : W p l e R s m args below meth c H locs cells slots Q (F0 m pc ls st0) := by
  intro T hT X
  obtain ⟨v, st₀, t, T', L, h0, X', hL, e1, e2, ⟨⟨r, hv, hp⟩, hz⟩, st⟩ := hr T hT X
  cases hv
  have hnil : L = [] := by
    cases L with
    | nil => rfl
    | cons q qs => exact absurd (hL q List.mem_cons_self) (hfree _)
  subst hnil
  rw [List.append_nil] at X'
  obtain ⟨t2, a1, b1⟩ := kk r hp T' (by rw [e1, hz, h0]) X'
  exact ⟨t2, st t2 a1, b1⟩
end ZL
theorem zP_nil {D : va_G} {cl : List vw_C} {H : Heap} : va_P D cl [] H := fun k q h => by simp at h
def mxL (h v : Int64) : Int64 := 31 * h + v

set_option maxHeartbeats 2000000 in
set_option maxRecDepth 100000 in
theorem c_L_mixed (l : Launch) (E : zE) (h v : Int64) : zRl l yL_mixed wsL_mixed ({ frames := 0, cells := 0, slots := 0, locals := 0 }) E [.long h, .long v] (fun r => r = mxL h v) := by
  refine zRl.start (own := RL) rfl (by decide +kernel) rfl (Nat.le_of_ble_eq_true rfl) ?_
  intro pZ eZ sZ mZ argsZ belowZ methZ cZ QZ hF hret ls hl
  obtain ⟨hx, hb, hml, hown, hts⟩ := id hF
  have hl : lv_has ls 4 [(0, .long h), (2, .long v)] := hl
  refine lv_ldc2 (v := 31) hx hb hown (hts (.constantLong RL 9 31) (by decide +kernel)) dL_mixed_0 ?_
  refine lv_lload_n hx hb dL_mixed_3 rfl (lv_at hl 0 rfl) ?_
  refine lv_lmul hx hb dL_mixed_4 ?_
  refine lv_lload_n hx hb dL_mixed_5 rfl (lv_at hl 1 rfl) ?_
  refine lv_ladd hx hb dL_mixed_6 ?_
  exact hret _ _ _ dL_mixed_7 rfl

set_option maxHeartbeats 2000000 in
set_option maxRecDepth 100000 in
theorem c_L_part (l : Launch) (E : zE) (v : Int32) (n : Nat) (h0 : 0 < n) (hn : n < 2147483648) : zR l yL_part wsL_part ({ frames := 0, cells := 0, slots := 0, locals := 0 }) E [.int v, .int (nI n)] [] (fun r => ∃ k, k < n ∧ r = nI k) := by
  refine zR.start (own := RL) rfl (by decide +kernel) rfl (Nat.le_of_ble_eq_true rfl) (fun _ _ => rfl) ?_
  intro pZ eZ sZ mZ argsZ belowZ methZ cZ QZ hF hret hP hG ls hl
  obtain ⟨hx, hb, hml, hown, hts⟩ := id hF
  obtain ⟨m9, hm9, e9⟩ := z_and31 v
  have hl : lv_has ls 2 [(0, .int v), (1, .int (nI n))] := hl
  refine lv_iload_n hx hb dL_part_0 rfl (lv_at hl 0 rfl) ?_
  refine lv_ldc (v := nI 2147483647) hx hb hown (hts (.constant RL 7 2147483647) (by decide +kernel)) dL_part_1 ?_
  refine lv_iand hx hb dL_part_3 ?_
  rw [e9]
  refine lv_iload_n hx hb dL_part_4 rfl (lv_at hl 1 rfl) ?_
  refine z_irem (a := m9) (b := n) hx hb dL_part_5 h0 hm9 hn ?_
  exact hret _ _ _ dL_part_6 ⟨m9 % n, Nat.mod_lt _ h0, rfl⟩

/-- take: some number or other -/
def tkM (l : Launch) (rm : Room) (E : zE) (b L : Nat) (xs : Nat → Int32) (k : Nat) : Prop := Met l yL_take wsL_take rm (va_Pc [.ref b, .int (nI k)] (fun U => va_X b L xs U U.heap ∧ zG E U)) (zQr (fun _ => True)) 0 0 (fun _ => False)

set_option maxHeartbeats 2000000 in
set_option maxRecDepth 100000 in
theorem c_L_take (l : Launch) (E : zE) (b L : Nat) (xs : Nat → Int32) (k : Nat) (hL : L ≤ 260) (hk : k < 100000) : tkM l ({ frames := 0, cells := 0, slots := 0, locals := 0 }) E b L xs k := by
  refine va_MetF (cc := cL_take) (maxL := 2) (ret := some .int) (by decide +kernel) rfl ?_
  intro pZ eZ s mZ args belowZ methZ cZ s₁ B hml hv
  obtain ⟨rfl, hX, hG⟩ := hv
  have hown : s.vm.findClass RL = some mZ.cls := findClass_of_methodNamed B.named
  have hts := atoms_spec (ws := wsL_take) B.pre
  have hx := B.exec
  have hb := B.bytes
  have hret : ∀ (v : Int32) (pc : Nat) (ls : Array Slot), decode cL_take pc = .ok (.ireturn, 1) → W pZ l eZ ({ frames := 0, cells := 0, slots := 0, locals := 0 }) s mZ #[Value.ref b, Value.int (nI k)] belowZ methZ cZ s.heap [] 0 0 (MQ belowZ (zQr (fun _ => True)) #[Value.ref b, Value.int (nI k)] s 0 0 (fun _ => False)) (F0 mZ pc ls [.int v]) := fun v pc ls hd => W.zret (ty := .int) B.exec B.bytes B.returns rfl (fun t ht hW => ⟨⟨v, rfl, trivial⟩, ht⟩) (fun q hq => by cases hq) hd B.notSynchronized
  have hbl : b < s.heap.size := by obtain ⟨scr, h1, -⟩ := hX; exact (Array.getElem?_eq_some_iff.mp h1).1
  have hl := lv_entry [.ref b, .int (nI k)] (n := 2) (Nat.le_of_ble_eq_true rfl)
  rw [lg_entry_eq]
  generalize (lg_sl ([.ref b, .int (nI k)]) ++ List.replicate (2 - (lg_sl ([.ref b, .int (nI k)])).length) Slot.unset).toArray = ls at hl ⊢
  have hl : lv_has ls 2 [(0, .ref b), (1, .int (nI k))] := hl
  refine lv_aload_n hx hb dL_take_0 rfl (lv_at hl 0 rfl) ?_
  refine va_slen hx hb hX hbl (A := fun _ => False) (fun h9 => h9) va_S.rf dL_take_1 ?_
  refine z_if_ne (tgt := 15) hx hb dL_take_2 (by decide) (a := L) (by omega) (fun c1 => ?_) (fun c1 => ?_)
  · skip
    refine lv_aload_n hx hb dL_take_15 rfl (lv_at hl 0 rfl) ?_
    refine lv_iload_n hx hb dL_take_16 rfl (lv_at hl 1 rfl) ?_
    refine lv_aload_n hx hb dL_take_17 rfl (lv_at hl 0 rfl) ?_
    refine va_slen hx hb hX hbl (A := fun _ => False) (fun h9 => h9) va_S.rf dL_take_18 ?_
    refine z_irem (a := k) (b := L) hx hb dL_take_19 (by omega) (by omega) (by omega) ?_
    have hkl := Nat.mod_lt k c1
    refine va_sld hx hb hX hbl (A := fun _ => False) (fun h9 => h9) va_S.rf (vp_in_nI hkl (by omega)) dL_take_20 ?_
    refine lv_topi (fun x0 ex0 => ?_)
    refine lv_iload_n hx hb dL_take_21 rfl (lv_at hl 1 rfl) ?_
    refine lv_bipush (v := nI 7) hx hb dL_take_22 (by decide) ?_
    refine z_irem (a := k) (b := 7) hx hb dL_take_24 (by omega) (by omega) (by omega) ?_
    refine lv_ishr hx hb dL_take_25 ?_
    refine lv_topi (fun v1_25 ev1_25 => ?_)
    refine lv_iload_n hx hb dL_take_26 rfl (lv_at hl 1 rfl) ?_
    refine lv_aload_n hx hb dL_take_27 rfl (lv_at hl 0 rfl) ?_
    refine va_slen hx hb hX hbl (A := fun _ => False) (fun h9 => h9) va_S.rf dL_take_28 ?_
    refine z_idiv (a := k) (b := L) hx hb dL_take_29 (by omega) (by omega) (by omega) ?_
    refine lv_bipush (v := nI 31) hx hb dL_take_30 (by decide) ?_
    refine z_imul (a := k / L) (b := 31) hx hb dL_take_32 ?_
    refine lv_ixor hx hb dL_take_33 ?_
    refine lv_topi (fun v2_33 ev2_33 => ?_)
    refine lv_iload_n hx hb dL_take_34 rfl (lv_at hl 1 rfl) ?_
    refine lv_ldc (v := nI 2654435) hx hb hown (hts (.constant RL 8 2654435) (by decide +kernel)) dL_take_35 ?_
    refine z_imul (a := k) (b := 2654435) hx hb dL_take_37 ?_
    refine lv_ixor hx hb dL_take_38 ?_
    refine lv_topi (fun v3_38 ev3_38 => ?_)
    exact hret _ _ _ dL_take_39
  · skip
    refine lv_sipush (v := nI 7919) hx hb dL_take_5 (by decide) ?_
    refine lv_iload_n hx hb dL_take_8 rfl (lv_at hl 1 rfl) ?_
    refine z_imul (a := 7919) (b := k) hx hb dL_take_9 ?_
    refine lv_iconst (v := nI 3) hx hb dL_take_10 (by decide) ?_
    refine z_iadd (a := 7919 * k) (b := 3) hx hb dL_take_11 ?_
    refine lv_goto (tgt := 39) hx hb dL_take_12 (by decide) ?_
    exact hret _ _ _ dL_take_39

/-- a row of answers, mixed in -/
def fdL (f : Nat → Int32) : Nat → Int64 → Int64
  | 0, h => h
  | k + 1, h => mxL (fdL f k h) (f k).toInt64
theorem fdL_0 (f : Nat → Int32) (h : Int64) : fdL f 0 h = h := rfl
theorem fdL_s (f : Nat → Int32) (k : Nat) (h : Int64) : fdL f (k + 1) h = mxL (fdL f k h) (f k).toInt64 := rfl
def dgF (X : Nat → Nat → Nat) : Nat → Int32 := fun k => ctX X 0 0 (bzL (X 7) (X 4) 4) (sumP (X 6) 4) k
def dg1 (X : Nat → Nat → Nat) : Int64 := fdL (dgF X) 12 8
def dg2 (X : Nat → Nat → Nat) : Int64 := fdL (fun k => fiX X (1 + k / 6) (k % 6)) (6 * X 13 0) (dg1 X)
def dg3 (X : Nat → Nat → Nat) : Int64 := fdL (fun k => siX X (k / 9) (k % 9)) 36 (dg2 X)
def dg4 (X : Nat → Nat → Nat) : Int64 := fdL (fun k => miX X (k / 12) (1 + k % 12) 0) 48 (dg3 X)
/-- the digest of all that can be seen but history and text -/
def dgX (X : Nat → Nat → Nat) : Int64 := fdL (fun k => nI (plX X (k / 3) (k % 3))) (3 * X 13 1) (dg4 X)
theorem dg1_e (X : Nat → Nat → Nat) : dg1 X = fdL (dgF X) 12 8 := by unfold dg1; rfl
theorem dg2_e (X : Nat → Nat → Nat) : dg2 X = fdL (fun k => fiX X (1 + k / 6) (k % 6)) (6 * X 13 0) (dg1 X) := by unfold dg2; rfl
theorem dg3_e (X : Nat → Nat → Nat) : dg3 X = fdL (fun k => siX X (k / 9) (k % 9)) 36 (dg2 X) := by unfold dg3; rfl
theorem dg4_e (X : Nat → Nat → Nat) : dg4 X = fdL (fun k => miX X (k / 12) (1 + k % 12) 0) 48 (dg3 X) := by unfold dg4; rfl
theorem dg5_e (X : Nat → Nat → Nat) : dgX X = fdL (fun k => nI (plX X (k / 3) (k % 3))) (3 * X 13 1) (dg4 X) := by unfold dgX; rfl
theorem ct_lo {X : Nat → Nat → Nat} {hz len k : Nat} (hk : k < 12) : ctX X hz len (bzL (X 7) (X 4) 4) (sumP (X 6) 4) k = dgF X k := by
  unfold dgF ctX
  obtain rfl | rfl | rfl | rfl | rfl | rfl | rfl | rfl | rfl | rfl | rfl | rfl : k = 0 ∨ k = 1 ∨ k = 2 ∨ k = 3 ∨ k = 4 ∨ k = 5 ∨ k = 6 ∨ k = 7 ∨ k = 8 ∨ k = 9 ∨ k = 10 ∨ k = 11 := by omega
  all_goals rfl
theorem ct_0 {X : Nat → Nat → Nat} {hz len b c : Nat} : ctX X hz len b c 0 = nI (X 13 0) := rfl
theorem ct_4 {X : Nat → Nat → Nat} {hz len b c : Nat} : ctX X hz len b c 4 = nI (X 13 1) := rfl

set_option maxHeartbeats 2000000 in
set_option maxRecDepth 100000 in
theorem c_L_state (l : Launch) (E : zE) (tm tl : Nat) (D : Nat → Prop) (fs : Nat) (o : oS) (xb : XB o.1) : oMl l yL_state wsL_state ({ frames := 6, cells := 0, slots := 0, locals := 136 }) E tm tl D fs [.ref fs] o (fun r o9 => r = dgX o.1 ∧ o9 = o) := by
  refine oMl.start (own := RL) rfl (by decide +kernel) rfl (Nat.le_of_ble_eq_true rfl) ?_
  intro pZ eZ sZ mZ argsZ belowZ methZ cZ QZ hF hret hG hZ HZ locsZ hO hS ls hl
  obtain ⟨hx, hb, hml, hown, hts⟩ := id hF
  obtain ⟨X, h9, len, Ch⟩ := o
  have hn : X 13 0 ≤ 12 := xb.1
  have hsz : X 13 1 ≤ 52 := xb.2.2.2.2.2.2.2.2.2.2.2.2.2.2.2.2.2.1
  have E5 : ∀ (HZ : Heap) (locsZ : List Loc) (ls : Array Slot), HO E D fs (X, h9, len, Ch) HZ → va_S D sZ.heap HZ locsZ → lv_has ls 4 [(0, .ref fs), (1, .long (dgX X)), (3, .int (nI (3 * X 13 1)))] → W pZ l eZ ({ frames := 6, cells := 0, slots := 0, locals := 136 }) sZ mZ argsZ belowZ methZ cZ HZ locsZ 0 0 QZ (F0 mZ 171 ls []) := by
    intro HZ locsZ ls hO hS hl
    refine lv_lload_n hx hb dL_state_171 rfl (lv_at hl 1 rfl) ?_
    exact hret _ _ _ _ _ _ hO hS dL_state_172 ⟨rfl, rfl⟩
  have L5 : ∀ (fu k : Nat), 3 * X 13 1 - k < fu → k ≤ 3 * X 13 1 → ∀ (HZ : Heap) (locsZ : List Loc) (ls : Array Slot), HO E D fs (X, h9, len, Ch) HZ → va_S D sZ.heap HZ locsZ → lv_has ls 4 [(0, .ref fs), (1, .long (fdL (fun k => nI (plX X (k / 3) (k % 3))) k (dg4 X))), (3, .int (nI k))] → W pZ l eZ ({ frames := 6, cells := 0, slots := 0, locals := 136 }) sZ mZ argsZ belowZ methZ cZ HZ locsZ 0 0 QZ (F0 mZ 138 ls []) := by
    intro fu
    induction fu with
    | zero => intro k h; exact absurd h (Nat.not_lt_zero _)
    | succ fu ih =>
      intro k hm hk HZ locsZ ls hO hS hl
      refine lv_iload_n hx hb dL_state_138 rfl (lv_at hl 2 rfl) ?_
      refine lv_iconst (v := nI 3) hx hb dL_state_139 (by decide) ?_
      refine lv_aload_n hx hb dL_state_140 rfl (lv_at hl 0 rfl) ?_
      refine lv_iconst (v := nI 4) hx hb dL_state_141 (by decide) ?_
      refine o_call (o := (X, h9, len, Ch)) (As := [.int (nI 4)]) (rest := [.int (nI 3), .int (nI k)]) hF (U_count_y l E tm tl D fs (X, h9, len, Ch) xb 4 (by omega)) (cwV 1 hts gL_state_X6_count rfl rfl rfl (by decide +kernel) ⟨Nat.le_of_ble_eq_true rfl, Nat.le_of_ble_eq_true rfl⟩) hG hZ (fun _ h9 => h9) hO hS rfl hl.1 rfl (lv_room (Nat.le_of_ble_eq_true rfl)) dL_state_142 ⟨Nat.le_of_ble_eq_true rfl, Nat.le_of_ble_eq_true rfl⟩ (fun r9 o9 HZ locsZ hp hO hS hsz9 hfr9 => ?_)
      obtain ⟨rfl, rfl⟩ := hp
      refine lv_topi (fun r8 e8 => ?_)
      obtain rfl : r8 = nI (X 13 1) := e8
      refine z_imul (a := 3) (b := X 13 1) hx hb dL_state_145 ?_
      refine z_icmp_ge (tgt := 171) hx hb dL_state_146 (by decide) (by omega) (by omega) (fun c1 => ?_) (fun c1 => ?_)
      · -- out
        obtain rfl : k = 3 * X 13 1 := by omega
        have hl := lv_sub hl [0, 1, 2] rfl
        have hl : lv_has ls 4 [(0, .ref fs), (1, .long (dgX X)), (3, .int (nI (3 * X 13 1)))] := by rw [dg5_e]; exact hl
        exact E5 _ _ _ hO hS hl
      · -- in
        refine lv_lload_n hx hb dL_state_149 rfl (lv_at hl 1 rfl) ?_
        refine lv_aload_n hx hb dL_state_150 rfl (lv_at hl 0 rfl) ?_
        refine lv_iload_n hx hb dL_state_151 rfl (lv_at hl 2 rfl) ?_
        refine lv_iconst (v := nI 3) hx hb dL_state_152 (by decide) ?_
        refine z_idiv (a := k) (b := 3) hx hb dL_state_153 (by omega) (by omega) (by omega) ?_
        refine lv_iload_n hx hb dL_state_154 rfl (lv_at hl 2 rfl) ?_
        refine lv_iconst (v := nI 3) hx hb dL_state_155 (by decide) ?_
        refine z_irem (a := k) (b := 3) hx hb dL_state_156 (by omega) (by omega) (by omega) ?_
        refine o_call (o := (X, h9, len, Ch)) (As := [.int (nI (k / 3)), .int (nI (k % 3))]) (rest := [.long (fdL (fun k => nI (plX X (k / 3) (k % 3))) k (dg4 X))]) hF (U_played_y l E tm tl D fs (X, h9, len, Ch) xb (k / 3) (k % 3) (by show k / 3 < X 13 1; omega) (by omega)) (cwV 2 hts gL_state_X6_played rfl rfl rfl (by decide +kernel) ⟨Nat.le_of_ble_eq_true rfl, Nat.le_of_ble_eq_true rfl⟩) hG hZ (fun _ h9 => h9) hO hS rfl hl.1 rfl (lv_room (Nat.le_of_ble_eq_true rfl)) dL_state_157 ⟨Nat.le_of_ble_eq_true rfl, Nat.le_of_ble_eq_true rfl⟩ (fun r9 o9 HZ locsZ hp hO hS hsz9 hfr9 => ?_)
        obtain ⟨er, rfl⟩ := hp
        refine lv_i2l hx hb dL_state_160 rfl ?_
        refine z_rdl (fun _ h => h) (va_runS (As := [.long (fdL (fun k => nI (plX X (k / 3) (k % 3))) k (dg4 X)), .long ((r9).toInt64)]) (rest := []) hF (c_L_mixed l E (fdL (fun k => nI (plX X (k / 3) (k % 3))) k (dg4 X)) ((r9).toInt64)) (cwS 2 hts gL_state_L_mixed rfl rfl rfl (by decide +kernel) ⟨Nat.le_of_ble_eq_true rfl, Nat.le_of_ble_eq_true rfl⟩) (z_preR zP_nil hG) rfl rfl hl.1 rfl (lv_room (Nat.le_of_ble_eq_true rfl)) dL_state_161 ⟨Nat.zero_le _, Nat.zero_le _⟩) (fun m9 hm => ?_)
        subst hm er
        refine lv_lstore_n (lv' := [(1, .long (mxL (fdL (fun k => nI (plX X (k / 3) (k % 3))) k (dg4 X)) ((fun k => nI (plX X (k / 3) (k % 3))) k).toInt64)), (0, .ref fs), (3, .int (nI k))]) hx hb dL_state_164 rfl hl (by decide) rfl (fun ls hl => ?_)
        refine z_iinc (k := 2) (d := 1) (lv' := [(3, .int (nI (k + 1))), (1, .long (mxL (fdL (fun k => nI (plX X (k / 3) (k % 3))) k (dg4 X)) ((fun k => nI (plX X (k / 3) (k % 3))) k).toInt64)), (0, .ref fs)]) hx hb dL_state_165 (by decide) hl rfl (by decide) rfl (fun ls hl => ?_)
        refine lv_goto (tgt := 138) hx hb dL_state_168 (by decide) ?_
        have hl := lv_sub hl [2, 1, 0] rfl
        have hl : lv_has ls 4 [(0, .ref fs), (1, .long (fdL (fun k => nI (plX X (k / 3) (k % 3))) (k + 1) (dg4 X))), (3, .int (nI (k + 1)))] := by rw [fdL_s]; exact hl
        exact ih (k + 1) (by omega) (by omega) _ _ _ hO hS hl
  have E4 : ∀ (HZ : Heap) (locsZ : List Loc) (ls : Array Slot), HO E D fs (X, h9, len, Ch) HZ → va_S D sZ.heap HZ locsZ → lv_has ls 4 [(0, .ref fs), (1, .long (dg4 X)), (3, .int (nI 48))] → W pZ l eZ ({ frames := 6, cells := 0, slots := 0, locals := 136 }) sZ mZ argsZ belowZ methZ cZ HZ locsZ 0 0 QZ (F0 mZ 136 ls []) := by
    intro HZ locsZ ls hO hS hl
    refine lv_iconst (v := nI 0) hx hb dL_state_136 (by decide) ?_
    refine lv_istore_n (lv' := [(3, .int (nI 0)), (0, .ref fs), (1, .long (dg4 X))]) hx hb dL_state_137 rfl hl (by decide) rfl (fun ls hl => ?_)
    have hl := lv_sub hl [1, 2, 0] rfl
    have hl : lv_has ls 4 [(0, .ref fs), (1, .long (fdL (fun k => nI (plX X (k / 3) (k % 3))) 0 (dg4 X))), (3, .int (nI 0))] := by rw [fdL_0]; exact hl
    exact L5 (3 * X 13 1 - 0 + 1) 0 (Nat.lt_succ_self _) (Nat.zero_le _) _ _ _ hO hS hl
  have L4 : ∀ (fu k : Nat), 48 - k < fu → k ≤ 48 → ∀ (HZ : Heap) (locsZ : List Loc) (ls : Array Slot), HO E D fs (X, h9, len, Ch) HZ → va_S D sZ.heap HZ locsZ → lv_has ls 4 [(0, .ref fs), (1, .long (fdL (fun k => miX X (k / 12) (1 + k % 12) 0) k (dg3 X))), (3, .int (nI k))] → W pZ l eZ ({ frames := 6, cells := 0, slots := 0, locals := 136 }) sZ mZ argsZ belowZ methZ cZ HZ locsZ 0 0 QZ (F0 mZ 103 ls []) := by
    intro fu
    induction fu with
    | zero => intro k h; exact absurd h (Nat.not_lt_zero _)
    | succ fu ih =>
      intro k hm hk HZ locsZ ls hO hS hl
      refine lv_iload_n hx hb dL_state_103 rfl (lv_at hl 2 rfl) ?_
      refine lv_bipush (v := nI 48) hx hb dL_state_104 (by decide) ?_
      refine z_icmp_ge (tgt := 136) hx hb dL_state_106 (by decide) (by omega) (by omega) (fun c1 => ?_) (fun c1 => ?_)
      · -- out
        obtain rfl : k = 48 := by omega
        have hl := lv_sub hl [0, 1, 2] rfl
        have hl : lv_has ls 4 [(0, .ref fs), (1, .long (dg4 X)), (3, .int (nI 48))] := by rw [dg4_e]; exact hl
        exact E4 _ _ _ hO hS hl
      · -- in
        refine lv_lload_n hx hb dL_state_109 rfl (lv_at hl 1 rfl) ?_
        refine lv_aload_n hx hb dL_state_110 rfl (lv_at hl 0 rfl) ?_
        refine lv_iload_n hx hb dL_state_111 rfl (lv_at hl 2 rfl) ?_
        refine lv_bipush (v := nI 12) hx hb dL_state_112 (by decide) ?_
        refine z_idiv (a := k) (b := 12) hx hb dL_state_114 (by omega) (by omega) (by omega) ?_
        refine lv_iconst (v := nI 1) hx hb dL_state_115 (by decide) ?_
        refine lv_iload_n hx hb dL_state_116 rfl (lv_at hl 2 rfl) ?_
        refine lv_bipush (v := nI 12) hx hb dL_state_117 (by decide) ?_
        refine z_irem (a := k) (b := 12) hx hb dL_state_119 (by omega) (by omega) (by omega) ?_
        refine z_iadd (a := 1) (b := k % 12) hx hb dL_state_120 ?_
        refine lv_iconst (v := nI 0) hx hb dL_state_121 (by decide) ?_
        refine o_call (o := (X, h9, len, Ch)) (As := [.int (nI (k / 12)), .int (nI (1 + (k % 12))), .int (nI 0)]) (rest := [.long (fdL (fun k => miX X (k / 12) (1 + k % 12) 0) k (dg3 X))]) hF (U_modeInfo_y l E tm tl D fs (X, h9, len, Ch) xb (k / 12) (1 + k % 12) 0 (by omega) (by omega) (by omega) (by omega)) (cwV 3 hts gL_state_X6_modeInfo rfl rfl rfl (by decide +kernel) ⟨Nat.le_of_ble_eq_true rfl, Nat.le_of_ble_eq_true rfl⟩) hG hZ (fun _ h9 => h9) hO hS rfl hl.1 rfl (lv_room (Nat.le_of_ble_eq_true rfl)) dL_state_122 ⟨Nat.le_of_ble_eq_true rfl, Nat.le_of_ble_eq_true rfl⟩ (fun r9 o9 HZ locsZ hp hO hS hsz9 hfr9 => ?_)
        obtain ⟨er, rfl⟩ := hp
        refine lv_i2l hx hb dL_state_125 rfl ?_
        refine z_rdl (fun _ h => h) (va_runS (As := [.long (fdL (fun k => miX X (k / 12) (1 + k % 12) 0) k (dg3 X)), .long ((r9).toInt64)]) (rest := []) hF (c_L_mixed l E (fdL (fun k => miX X (k / 12) (1 + k % 12) 0) k (dg3 X)) ((r9).toInt64)) (cwS 2 hts gL_state_L_mixed rfl rfl rfl (by decide +kernel) ⟨Nat.le_of_ble_eq_true rfl, Nat.le_of_ble_eq_true rfl⟩) (z_preR zP_nil hG) rfl rfl hl.1 rfl (lv_room (Nat.le_of_ble_eq_true rfl)) dL_state_126 ⟨Nat.zero_le _, Nat.zero_le _⟩) (fun m9 hm => ?_)
        subst hm er
        refine lv_lstore_n (lv' := [(1, .long (mxL (fdL (fun k => miX X (k / 12) (1 + k % 12) 0) k (dg3 X)) ((fun k => miX X (k / 12) (1 + k % 12) 0) k).toInt64)), (0, .ref fs), (3, .int (nI k))]) hx hb dL_state_129 rfl hl (by decide) rfl (fun ls hl => ?_)
        refine z_iinc (k := 2) (d := 1) (lv' := [(3, .int (nI (k + 1))), (1, .long (mxL (fdL (fun k => miX X (k / 12) (1 + k % 12) 0) k (dg3 X)) ((fun k => miX X (k / 12) (1 + k % 12) 0) k).toInt64)), (0, .ref fs)]) hx hb dL_state_130 (by decide) hl rfl (by decide) rfl (fun ls hl => ?_)
        refine lv_goto (tgt := 103) hx hb dL_state_133 (by decide) ?_
        have hl := lv_sub hl [2, 1, 0] rfl
        have hl : lv_has ls 4 [(0, .ref fs), (1, .long (fdL (fun k => miX X (k / 12) (1 + k % 12) 0) (k + 1) (dg3 X))), (3, .int (nI (k + 1)))] := by rw [fdL_s]; exact hl
        exact ih (k + 1) (by omega) (by omega) _ _ _ hO hS hl
  have E3 : ∀ (HZ : Heap) (locsZ : List Loc) (ls : Array Slot), HO E D fs (X, h9, len, Ch) HZ → va_S D sZ.heap HZ locsZ → lv_has ls 4 [(0, .ref fs), (1, .long (dg3 X)), (3, .int (nI 36))] → W pZ l eZ ({ frames := 6, cells := 0, slots := 0, locals := 136 }) sZ mZ argsZ belowZ methZ cZ HZ locsZ 0 0 QZ (F0 mZ 101 ls []) := by
    intro HZ locsZ ls hO hS hl
    refine lv_iconst (v := nI 0) hx hb dL_state_101 (by decide) ?_
    refine lv_istore_n (lv' := [(3, .int (nI 0)), (0, .ref fs), (1, .long (dg3 X))]) hx hb dL_state_102 rfl hl (by decide) rfl (fun ls hl => ?_)
    have hl := lv_sub hl [1, 2, 0] rfl
    have hl : lv_has ls 4 [(0, .ref fs), (1, .long (fdL (fun k => miX X (k / 12) (1 + k % 12) 0) 0 (dg3 X))), (3, .int (nI 0))] := by rw [fdL_0]; exact hl
    exact L4 (48 - 0 + 1) 0 (Nat.lt_succ_self _) (Nat.zero_le _) _ _ _ hO hS hl
  have L3 : ∀ (fu k : Nat), 36 - k < fu → k ≤ 36 → ∀ (HZ : Heap) (locsZ : List Loc) (ls : Array Slot), HO E D fs (X, h9, len, Ch) HZ → va_S D sZ.heap HZ locsZ → lv_has ls 4 [(0, .ref fs), (1, .long (fdL (fun k => siX X (k / 9) (k % 9)) k (dg2 X))), (3, .int (nI k))] → W pZ l eZ ({ frames := 6, cells := 0, slots := 0, locals := 136 }) sZ mZ argsZ belowZ methZ cZ HZ locsZ 0 0 QZ (F0 mZ 71 ls []) := by
    intro fu
    induction fu with
    | zero => intro k h; exact absurd h (Nat.not_lt_zero _)
    | succ fu ih =>
      intro k hm hk HZ locsZ ls hO hS hl
      refine lv_iload_n hx hb dL_state_71 rfl (lv_at hl 2 rfl) ?_
      refine lv_bipush (v := nI 36) hx hb dL_state_72 (by decide) ?_
      refine z_icmp_ge (tgt := 101) hx hb dL_state_74 (by decide) (by omega) (by omega) (fun c1 => ?_) (fun c1 => ?_)
      · -- out
        obtain rfl : k = 36 := by omega
        have hl := lv_sub hl [0, 1, 2] rfl
        have hl : lv_has ls 4 [(0, .ref fs), (1, .long (dg3 X)), (3, .int (nI 36))] := by rw [dg3_e]; exact hl
        exact E3 _ _ _ hO hS hl
      · -- in
        refine lv_lload_n hx hb dL_state_77 rfl (lv_at hl 1 rfl) ?_
        refine lv_aload_n hx hb dL_state_78 rfl (lv_at hl 0 rfl) ?_
        refine lv_iload_n hx hb dL_state_79 rfl (lv_at hl 2 rfl) ?_
        refine lv_bipush (v := nI 9) hx hb dL_state_80 (by decide) ?_
        refine z_idiv (a := k) (b := 9) hx hb dL_state_82 (by omega) (by omega) (by omega) ?_
        refine lv_iload_n hx hb dL_state_83 rfl (lv_at hl 2 rfl) ?_
        refine lv_bipush (v := nI 9) hx hb dL_state_84 (by decide) ?_
        refine z_irem (a := k) (b := 9) hx hb dL_state_86 (by omega) (by omega) (by omega) ?_
        refine o_call (o := (X, h9, len, Ch)) (As := [.int (nI (k / 9)), .int (nI (k % 9))]) (rest := [.long (fdL (fun k => siX X (k / 9) (k % 9)) k (dg2 X))]) hF (U_stringInfo_y l E tm tl D fs (X, h9, len, Ch) xb (k / 9) (k % 9) (by omega) (by omega)) (cwV 2 hts gL_state_X6_stringInfo rfl rfl rfl (by decide +kernel) ⟨Nat.le_of_ble_eq_true rfl, Nat.le_of_ble_eq_true rfl⟩) hG hZ (fun _ h9 => h9) hO hS rfl hl.1 rfl (lv_room (Nat.le_of_ble_eq_true rfl)) dL_state_87 ⟨Nat.le_of_ble_eq_true rfl, Nat.le_of_ble_eq_true rfl⟩ (fun r9 o9 HZ locsZ hp hO hS hsz9 hfr9 => ?_)
        obtain ⟨er, rfl⟩ := hp
        refine lv_i2l hx hb dL_state_90 rfl ?_
        refine z_rdl (fun _ h => h) (va_runS (As := [.long (fdL (fun k => siX X (k / 9) (k % 9)) k (dg2 X)), .long ((r9).toInt64)]) (rest := []) hF (c_L_mixed l E (fdL (fun k => siX X (k / 9) (k % 9)) k (dg2 X)) ((r9).toInt64)) (cwS 2 hts gL_state_L_mixed rfl rfl rfl (by decide +kernel) ⟨Nat.le_of_ble_eq_true rfl, Nat.le_of_ble_eq_true rfl⟩) (z_preR zP_nil hG) rfl rfl hl.1 rfl (lv_room (Nat.le_of_ble_eq_true rfl)) dL_state_91 ⟨Nat.zero_le _, Nat.zero_le _⟩) (fun m9 hm => ?_)
        subst hm er
        refine lv_lstore_n (lv' := [(1, .long (mxL (fdL (fun k => siX X (k / 9) (k % 9)) k (dg2 X)) ((fun k => siX X (k / 9) (k % 9)) k).toInt64)), (0, .ref fs), (3, .int (nI k))]) hx hb dL_state_94 rfl hl (by decide) rfl (fun ls hl => ?_)
        refine z_iinc (k := 2) (d := 1) (lv' := [(3, .int (nI (k + 1))), (1, .long (mxL (fdL (fun k => siX X (k / 9) (k % 9)) k (dg2 X)) ((fun k => siX X (k / 9) (k % 9)) k).toInt64)), (0, .ref fs)]) hx hb dL_state_95 (by decide) hl rfl (by decide) rfl (fun ls hl => ?_)
        refine lv_goto (tgt := 71) hx hb dL_state_98 (by decide) ?_
        have hl := lv_sub hl [2, 1, 0] rfl
        have hl : lv_has ls 4 [(0, .ref fs), (1, .long (fdL (fun k => siX X (k / 9) (k % 9)) (k + 1) (dg2 X))), (3, .int (nI (k + 1)))] := by rw [fdL_s]; exact hl
        exact ih (k + 1) (by omega) (by omega) _ _ _ hO hS hl
  have E2 : ∀ (HZ : Heap) (locsZ : List Loc) (ls : Array Slot), HO E D fs (X, h9, len, Ch) HZ → va_S D sZ.heap HZ locsZ → lv_has ls 4 [(0, .ref fs), (1, .long (dg2 X)), (3, .int (nI (6 * X 13 0)))] → W pZ l eZ ({ frames := 6, cells := 0, slots := 0, locals := 136 }) sZ mZ argsZ belowZ methZ cZ HZ locsZ 0 0 QZ (F0 mZ 69 ls []) := by
    intro HZ locsZ ls hO hS hl
    refine lv_iconst (v := nI 0) hx hb dL_state_69 (by decide) ?_
    refine lv_istore_n (lv' := [(3, .int (nI 0)), (0, .ref fs), (1, .long (dg2 X))]) hx hb dL_state_70 rfl hl (by decide) rfl (fun ls hl => ?_)
    have hl := lv_sub hl [1, 2, 0] rfl
    have hl : lv_has ls 4 [(0, .ref fs), (1, .long (fdL (fun k => siX X (k / 9) (k % 9)) 0 (dg2 X))), (3, .int (nI 0))] := by rw [fdL_0]; exact hl
    exact L3 (36 - 0 + 1) 0 (Nat.lt_succ_self _) (Nat.zero_le _) _ _ _ hO hS hl
  have L2 : ∀ (fu k : Nat), 6 * X 13 0 - k < fu → k ≤ 6 * X 13 0 → ∀ (HZ : Heap) (locsZ : List Loc) (ls : Array Slot), HO E D fs (X, h9, len, Ch) HZ → va_S D sZ.heap HZ locsZ → lv_has ls 4 [(0, .ref fs), (1, .long (fdL (fun k => fiX X (1 + k / 6) (k % 6)) k (dg1 X))), (3, .int (nI k))] → W pZ l eZ ({ frames := 6, cells := 0, slots := 0, locals := 136 }) sZ mZ argsZ belowZ methZ cZ HZ locsZ 0 0 QZ (F0 mZ 31 ls []) := by
    intro fu
    induction fu with
    | zero => intro k h; exact absurd h (Nat.not_lt_zero _)
    | succ fu ih =>
      intro k hm hk HZ locsZ ls hO hS hl
      refine lv_iload_n hx hb dL_state_31 rfl (lv_at hl 2 rfl) ?_
      refine lv_bipush (v := nI 6) hx hb dL_state_32 (by decide) ?_
      refine lv_aload_n hx hb dL_state_34 rfl (lv_at hl 0 rfl) ?_
      refine lv_iconst (v := nI 0) hx hb dL_state_35 (by decide) ?_
      refine o_call (o := (X, h9, len, Ch)) (As := [.int (nI 0)]) (rest := [.int (nI 6), .int (nI k)]) hF (U_count_y l E tm tl D fs (X, h9, len, Ch) xb 0 (by omega)) (cwV 1 hts gL_state_X6_count rfl rfl rfl (by decide +kernel) ⟨Nat.le_of_ble_eq_true rfl, Nat.le_of_ble_eq_true rfl⟩) hG hZ (fun _ h9 => h9) hO hS rfl hl.1 rfl (lv_room (Nat.le_of_ble_eq_true rfl)) dL_state_36 ⟨Nat.le_of_ble_eq_true rfl, Nat.le_of_ble_eq_true rfl⟩ (fun r9 o9 HZ locsZ hp hO hS hsz9 hfr9 => ?_)
      obtain ⟨rfl, rfl⟩ := hp
      refine lv_topi (fun r8 e8 => ?_)
      obtain rfl : r8 = nI (X 13 0) := e8
      refine z_imul (a := 6) (b := X 13 0) hx hb dL_state_39 ?_
      refine z_icmp_ge (tgt := 69) hx hb dL_state_40 (by decide) (by omega) (by omega) (fun c1 => ?_) (fun c1 => ?_)
      · -- out
        obtain rfl : k = 6 * X 13 0 := by omega
        have hl := lv_sub hl [0, 1, 2] rfl
        have hl : lv_has ls 4 [(0, .ref fs), (1, .long (dg2 X)), (3, .int (nI (6 * X 13 0)))] := by rw [dg2_e]; exact hl
        exact E2 _ _ _ hO hS hl
      · -- in
        refine lv_lload_n hx hb dL_state_43 rfl (lv_at hl 1 rfl) ?_
        refine lv_aload_n hx hb dL_state_44 rfl (lv_at hl 0 rfl) ?_
        refine lv_iconst (v := nI 1) hx hb dL_state_45 (by decide) ?_
        refine lv_iload_n hx hb dL_state_46 rfl (lv_at hl 2 rfl) ?_
        refine lv_bipush (v := nI 6) hx hb dL_state_47 (by decide) ?_
        refine z_idiv (a := k) (b := 6) hx hb dL_state_49 (by omega) (by omega) (by omega) ?_
        refine z_iadd (a := 1) (b := k / 6) hx hb dL_state_50 ?_
        refine lv_iload_n hx hb dL_state_51 rfl (lv_at hl 2 rfl) ?_
        refine lv_bipush (v := nI 6) hx hb dL_state_52 (by decide) ?_
        refine z_irem (a := k) (b := 6) hx hb dL_state_54 (by omega) (by omega) (by omega) ?_
        refine o_call (o := (X, h9, len, Ch)) (As := [.int (nI (1 + (k / 6))), .int (nI (k % 6))]) (rest := [.long (fdL (fun k => fiX X (1 + k / 6) (k % 6)) k (dg1 X))]) hF (U_fretInfo_y l E tm tl D fs (X, h9, len, Ch) xb (1 + k / 6) (k % 6) (by omega) (by show 1 + k / 6 ≤ X 13 0; omega) (by omega)) (cwV 2 hts gL_state_X6_fretInfo rfl rfl rfl (by decide +kernel) ⟨Nat.le_of_ble_eq_true rfl, Nat.le_of_ble_eq_true rfl⟩) hG hZ (fun _ h9 => h9) hO hS rfl hl.1 rfl (lv_room (Nat.le_of_ble_eq_true rfl)) dL_state_55 ⟨Nat.le_of_ble_eq_true rfl, Nat.le_of_ble_eq_true rfl⟩ (fun r9 o9 HZ locsZ hp hO hS hsz9 hfr9 => ?_)
        obtain ⟨er, rfl⟩ := hp
        refine lv_i2l hx hb dL_state_58 rfl ?_
        refine z_rdl (fun _ h => h) (va_runS (As := [.long (fdL (fun k => fiX X (1 + k / 6) (k % 6)) k (dg1 X)), .long ((r9).toInt64)]) (rest := []) hF (c_L_mixed l E (fdL (fun k => fiX X (1 + k / 6) (k % 6)) k (dg1 X)) ((r9).toInt64)) (cwS 2 hts gL_state_L_mixed rfl rfl rfl (by decide +kernel) ⟨Nat.le_of_ble_eq_true rfl, Nat.le_of_ble_eq_true rfl⟩) (z_preR zP_nil hG) rfl rfl hl.1 rfl (lv_room (Nat.le_of_ble_eq_true rfl)) dL_state_59 ⟨Nat.zero_le _, Nat.zero_le _⟩) (fun m9 hm => ?_)
        subst hm er
        refine lv_lstore_n (lv' := [(1, .long (mxL (fdL (fun k => fiX X (1 + k / 6) (k % 6)) k (dg1 X)) ((fun k => fiX X (1 + k / 6) (k % 6)) k).toInt64)), (0, .ref fs), (3, .int (nI k))]) hx hb dL_state_62 rfl hl (by decide) rfl (fun ls hl => ?_)
        refine z_iinc (k := 2) (d := 1) (lv' := [(3, .int (nI (k + 1))), (1, .long (mxL (fdL (fun k => fiX X (1 + k / 6) (k % 6)) k (dg1 X)) ((fun k => fiX X (1 + k / 6) (k % 6)) k).toInt64)), (0, .ref fs)]) hx hb dL_state_63 (by decide) hl rfl (by decide) rfl (fun ls hl => ?_)
        refine lv_goto (tgt := 31) hx hb dL_state_66 (by decide) ?_
        have hl := lv_sub hl [2, 1, 0] rfl
        have hl : lv_has ls 4 [(0, .ref fs), (1, .long (fdL (fun k => fiX X (1 + k / 6) (k % 6)) (k + 1) (dg1 X))), (3, .int (nI (k + 1)))] := by rw [fdL_s]; exact hl
        exact ih (k + 1) (by omega) (by omega) _ _ _ hO hS hl
  have E1 : ∀ (HZ : Heap) (locsZ : List Loc) (ls : Array Slot), HO E D fs (X, h9, len, Ch) HZ → va_S D sZ.heap HZ locsZ → lv_has ls 4 [(0, .ref fs), (1, .long (dg1 X)), (3, .int (nI 12))] → W pZ l eZ ({ frames := 6, cells := 0, slots := 0, locals := 136 }) sZ mZ argsZ belowZ methZ cZ HZ locsZ 0 0 QZ (F0 mZ 29 ls []) := by
    intro HZ locsZ ls hO hS hl
    refine lv_iconst (v := nI 0) hx hb dL_state_29 (by decide) ?_
    refine lv_istore_n (lv' := [(3, .int (nI 0)), (0, .ref fs), (1, .long (dg1 X))]) hx hb dL_state_30 rfl hl (by decide) rfl (fun ls hl => ?_)
    have hl := lv_sub hl [1, 2, 0] rfl
    have hl : lv_has ls 4 [(0, .ref fs), (1, .long (fdL (fun k => fiX X (1 + k / 6) (k % 6)) 0 (dg1 X))), (3, .int (nI 0))] := by rw [fdL_0]; exact hl
    exact L2 (6 * X 13 0 - 0 + 1) 0 (Nat.lt_succ_self _) (Nat.zero_le _) _ _ _ hO hS hl
  have L1 : ∀ (fu k : Nat), 12 - k < fu → k ≤ 12 → ∀ (HZ : Heap) (locsZ : List Loc) (ls : Array Slot), HO E D fs (X, h9, len, Ch) HZ → va_S D sZ.heap HZ locsZ → lv_has ls 4 [(0, .ref fs), (1, .long (fdL (dgF X) k (8))), (3, .int (nI k))] → W pZ l eZ ({ frames := 6, cells := 0, slots := 0, locals := 136 }) sZ mZ argsZ belowZ methZ cZ HZ locsZ 0 0 QZ (F0 mZ 6 ls []) := by
    intro fu
    induction fu with
    | zero => intro k h; exact absurd h (Nat.not_lt_zero _)
    | succ fu ih =>
      intro k hm hk HZ locsZ ls hO hS hl
      refine lv_iload_n hx hb dL_state_6 rfl (lv_at hl 2 rfl) ?_
      refine lv_bipush (v := nI 12) hx hb dL_state_7 (by decide) ?_
      refine z_icmp_ge (tgt := 29) hx hb dL_state_9 (by decide) (by omega) (by omega) (fun c1 => ?_) (fun c1 => ?_)
      · -- out
        obtain rfl : k = 12 := by omega
        have hl := lv_sub hl [0, 1, 2] rfl
        have hl : lv_has ls 4 [(0, .ref fs), (1, .long (dg1 X)), (3, .int (nI 12))] := by rw [dg1_e]; exact hl
        exact E1 _ _ _ hO hS hl
      · -- in
        refine lv_lload_n hx hb dL_state_12 rfl (lv_at hl 1 rfl) ?_
        refine lv_aload_n hx hb dL_state_13 rfl (lv_at hl 0 rfl) ?_
        refine lv_iload_n hx hb dL_state_14 rfl (lv_at hl 2 rfl) ?_
        refine o_call (o := (X, h9, len, Ch)) (As := [.int (nI k)]) (rest := [.long (fdL (dgF X) k (8))]) hF (U_count_y l E tm tl D fs (X, h9, len, Ch) xb k (by omega)) (cwV 1 hts gL_state_X6_count rfl rfl rfl (by decide +kernel) ⟨Nat.le_of_ble_eq_true rfl, Nat.le_of_ble_eq_true rfl⟩) hG hZ (fun _ h9 => h9) hO hS rfl hl.1 rfl (lv_room (Nat.le_of_ble_eq_true rfl)) dL_state_15 ⟨Nat.le_of_ble_eq_true rfl, Nat.le_of_ble_eq_true rfl⟩ (fun r9 o9 HZ locsZ hp hO hS hsz9 hfr9 => ?_)
        obtain ⟨er, rfl⟩ := hp
        have er : r9 = dgF X k := er.trans (ct_lo (by omega))
        refine lv_i2l hx hb dL_state_18 rfl ?_
        refine z_rdl (fun _ h => h) (va_runS (As := [.long (fdL (dgF X) k (8)), .long ((r9).toInt64)]) (rest := []) hF (c_L_mixed l E (fdL (dgF X) k (8)) ((r9).toInt64)) (cwS 2 hts gL_state_L_mixed rfl rfl rfl (by decide +kernel) ⟨Nat.le_of_ble_eq_true rfl, Nat.le_of_ble_eq_true rfl⟩) (z_preR zP_nil hG) rfl rfl hl.1 rfl (lv_room (Nat.le_of_ble_eq_true rfl)) dL_state_19 ⟨Nat.zero_le _, Nat.zero_le _⟩) (fun m9 hm => ?_)
        subst hm er
        refine lv_lstore_n (lv' := [(1, .long (mxL (fdL (dgF X) k (8)) ((dgF X) k).toInt64)), (0, .ref fs), (3, .int (nI k))]) hx hb dL_state_22 rfl hl (by decide) rfl (fun ls hl => ?_)
        refine z_iinc (k := 2) (d := 1) (lv' := [(3, .int (nI (k + 1))), (1, .long (mxL (fdL (dgF X) k (8)) ((dgF X) k).toInt64)), (0, .ref fs)]) hx hb dL_state_23 (by decide) hl rfl (by decide) rfl (fun ls hl => ?_)
        refine lv_goto (tgt := 6) hx hb dL_state_26 (by decide) ?_
        have hl := lv_sub hl [2, 1, 0] rfl
        have hl : lv_has ls 4 [(0, .ref fs), (1, .long (fdL (dgF X) (k + 1) (8))), (3, .int (nI (k + 1)))] := by rw [fdL_s]; exact hl
        exact ih (k + 1) (by omega) (by omega) _ _ _ hO hS hl
  have hl : lv_has ls 4 [(0, .ref fs)] := hl
  refine lv_ldc2 (v := 8) hx hb hown (hts (.constantLong RL 11 8) (by decide +kernel)) dL_state_0 ?_
  refine lv_lstore_n (lv' := [(1, .long (8 : Int64)), (0, .ref fs)]) hx hb dL_state_3 rfl hl (by decide) rfl (fun ls hl => ?_)
  refine lv_iconst (v := nI 0) hx hb dL_state_4 (by decide) ?_
  refine lv_istore_n (lv' := [(3, .int (nI 0)), (1, .long (8 : Int64)), (0, .ref fs)]) hx hb dL_state_5 rfl hl (by decide) rfl (fun ls hl => ?_)
  have hl := lv_sub hl [2, 1, 0] rfl
  have hl : lv_has ls 4 [(0, .ref fs), (1, .long (fdL (dgF X) 0 (8))), (3, .int (nI 0))] := by rw [fdL_0]; exact hl
  exact L1 (12 - 0 + 1) 0 (Nat.lt_succ_self _) (Nat.zero_le _) _ _ _ hO hS hl
