/-! ===== the law: what stays true of its object ===== -/
def GI (X : Nat → Nat → Nat) (B : Nat) : Prop := ∃ M : Nat → Nat, SR X M ∧ MJ M B
theorem GI_XB {X : Nat → Nat → Nat} {B : Nat} (h : GI X B) (hB : B ≤ 900000000) : XB X := by
  obtain ⟨M, r, m⟩ := h
  exact SR_XB r m.1 hB
theorem GI_le {X : Nat → Nat → Nat} {B C : Nat} (h : GI X B) (hC : B ≤ C) : GI X C := by
  obtain ⟨M, r, m⟩ := h
  exact ⟨M, r, MJ_le m hC⟩
theorem GI_init : GI iX 0 := ⟨iM, SR_init, MJ_init⟩
theorem GI_pr {X : Nat → Nat → Nat} {B s f : Nat} (h : GI X B) (hs : s < 4) (hf : f ≤ X 13 0) : GI (prX X s f) B := by
  obtain ⟨M, r, m⟩ := h
  have hf9 : f ≤ M 0 := by rw [← r.1.1.1]; exact hf
  exact ⟨_, SR_pr (Sd := c0) r m.1 hs hf9, MJ_ps (Sd := c0) m hs hf9⟩
theorem GI_pk {X : Nat → Nat → Nat} {B s y q : Nat} (h : GI X B) (hs : s < 4) (hq : q ≤ 1000) : GI (pkX X s y q) (B + 2000) := by
  obtain ⟨M, r, m⟩ := h
  exact ⟨_, SR_pk (Sd := c0) r m.1 hs hq, MJ_pk (Sd := c0) m hs hq⟩
theorem GI_lg {X : Nat → Nat → Nat} {B k : Nat} (h : GI X B) (hk : X 13 2 + k ≤ 100000) : GI (lgX X k) B := by
  obtain ⟨M, r, m⟩ := h
  have e : X 13 2 = M 1 := r.1.1.2.2.1
  exact ⟨_, SR_lg r m.1, MJ_gn m (by rw [← e]; exact hk)⟩
theorem GI_tu {X : Nat → Nat → Nat} {B s w : Nat} (h : GI X B) (hs : s < 4) (hw : w ≤ 100000000) : GI (tuX X s w) B := by
  obtain ⟨M, r, m⟩ := h
  exact ⟨_, SR_tu r m.1 hs, MJ_tu m hs hw⟩
theorem GI_to {X : Nat → Nat → Nat} {B s w : Nat} (h : GI X B) (hs : s < 4) (hw : w ≤ 2519) : GI (toX X s w) B := by
  obtain ⟨M, r, m⟩ := h
  exact ⟨_, SR_to r m.1 hs, MJ_to m hs hw⟩
theorem GI_da {X : Nat → Nat → Nat} {B s : Nat} (h : GI X B) (hs : s < 4) : GI (daX X s) B := by
  obtain ⟨M, r, m⟩ := h
  exact ⟨_, SR_da r m.1 hs, MJ_da m hs⟩
theorem GI_se {X : Nat → Nat → Nat} {B k w : Nat} (h : GI X B) (hk : k < 5) (hw : stO k w) : GI (seK X k w) B := by
  obtain ⟨M, r, m⟩ := h
  exact ⟨_, SR_st r m.1 hk, MJ_se m hk hw⟩
theorem GI_lv {X : Nat → Nat → Nat} {B f v : Nat} (h : GI X B) (hf1 : 1 ≤ f) (hf : f ≤ X 13 0) (hv : v ≤ 2000) : GI (lvX X f v) B := by
  obtain ⟨M, r, m⟩ := h
  have hf9 : f ≤ M 0 := by rw [← r.1.1.1]; exact hf
  exact ⟨_, SR_lv (Sd := c0) r m.1 hf1 hf9 hv, MJ_lv (Sd := c0) m hf1 hf9 hv⟩
theorem GI_fr {X : Nat → Nat → Nat} {B y v : Nat} (h : GI X B) (hn : X 13 0 < 12) (hy : y ≤ 2400) (hv : v ≤ 2000) (hf : ∀ i, i < X 13 0 → X 0 i ≠ y) : GI (frX X y v) B := by
  obtain ⟨M, r, m⟩ := h
  have e : X 13 0 = M 0 := r.1.1.1
  refine ⟨_, SR_fr (Sd := c0) r m.1 (by omega) hy hv, MJ_fr (Sd := c0) m (by omega) hy hv (fun i hi => ?_)⟩
  rw [← (r.1.2.2.1 i (by omega)).1]
  exact hf i (by omega)
theorem popL_le (a : Nat) : ∀ k, popL a k ≤ k
  | 0 => Nat.le_refl _
  | k + 1 => by
    have := popL_le a k
    simp only [popL]
    omega
theorem popc_le (a : Nat) : popc a ≤ 12 := popL_le a 12
theorem hrL_le (A : Nat → Nat) (h : Nat) : ∀ k, hrL A h k ≤ 12 * k
  | 0 => Nat.le_refl _
  | k + 1 => by
    have := hrL_le A h k
    have := popc_le (mhL A h k 12)
    simp only [hrL]
    omega
theorem insI_top {P : Nat → Nat} {x n : Nat} (h : ∀ i, i < n → P i ≤ x) : insI P x n = n := by
  cases n with
  | zero => rfl
  | succ n =>
    simp only [insI]
    rw [if_neg (by have := h n (by omega); omega)]
/-- of the first frets -/
def FI (X : Nat → Nat → Nat) (k : Nat) : Prop := GI X 0 ∧ X 13 0 = k ∧ (∀ i, i < k → 150 ≤ X 0 i ∧ X 0 i < 150 + 190 * k) ∧ X 13 2 = 0
theorem FI_ne {X : Nat → Nat → Nat} {k p : Nat} (h : FI X k) : ∀ i, i < X 13 0 → X 0 i ≠ 150 + 190 * k + p := fun i hi => by
  obtain ⟨-, h2, h3, -⟩ := h
  have := (h3 i (by omega)).2
  omega
theorem FI_at {X : Nat → Nat → Nat} {k p : Nat} (h : FI X k) : insI (X 0) (150 + 190 * k + p) (X 13 0) = k := by
  obtain ⟨-, h2, h3, -⟩ := h
  rw [h2]
  exact insI_top (fun i hi => by have := (h3 i hi).2; omega)
theorem FI_s {X : Nat → Nat → Nat} {k p z : Nat} (h : FI X k) (hk : k < 12) (hp : p < 150) (hz : z ≤ 2000) : FI (frX X (150 + 190 * k + p) z) (k + 1) := by
  have hne := FI_ne (p := p) h
  have hat := FI_at (p := p) h
  obtain ⟨h1, h2, h3, h4⟩ := h
  refine ⟨GI_fr h1 (by omega) (by omega) hz hne, by show X 13 0 + 1 = k + 1; omega, fun i hi => ?_, h4⟩
  have e : frX X (150 + 190 * k + p) z 0 i = if i = k then 150 + 190 * k + p else X 0 i := by
    show insA (X 0) (X 13 0) (insI (X 0) (150 + 190 * k + p) (X 13 0)) (150 + 190 * k + p) i = _
    rw [hat, h2]
    unfold insA
    rw [shf_n]
    rfl
  rw [e]
  split
  · omega
  · have := h3 i (by omega)
    omega
/-- of the state in the law's loop -/
def IV (X : Nat → Nat → Nat) (B t : Nat) : Prop := GI X B ∧ X 13 0 = 12 ∧ (∀ i, i < 12 → 150 ≤ X 0 i) ∧ X 13 2 ≤ t
theorem IV_of {X Y : Nat → Nat → Nat} {B C t u : Nat} (h : IV X B t) (g : GI Y C) (e0 : Y 13 0 = X 13 0) (e1 : Y 0 = X 0) (e2 : Y 13 2 ≤ u) : IV Y C u := ⟨g, e0.trans h.2.1, by rw [e1]; exact h.2.2.1, e2⟩
/-- the history and what the law wrote down of it -/
def HI (hl : List (Nat → Nat → Nat)) (f : Nat → Int64) (c : Nat) : Prop := hl.length = 4 ∧ ∀ j, 1 ≤ j → j ≤ 4 → j ≤ c → ∃ Y, hl[4 - j]? = some Y ∧ f (c - j) = dgX Y ∧ XB Y
theorem HI_up {hl : List (Nat → Nat → Nat)} {f : Nat → Int64} {c : Nat} {x : Int64} (h : HI hl f c) : HI hl (vp_updL f c x) c := by
  refine ⟨h.1, fun j h1 h2 h3 => ?_⟩
  obtain ⟨Y, a1, a2, a3⟩ := h.2 j h1 h2 h3
  refine ⟨Y, a1, ?_, a3⟩
  rw [← a2]
  unfold vp_updL
  rw [if_neg (by omega)]
theorem HI_s {hl : List (Nat → Nat → Nat)} {f : Nat → Int64} {c : Nat} {X : Nat → Nat → Nat} (h : HI hl f c) (hf : f c = dgX X) (hx : XB X) : HI (kpH hl X) f (c + 1) := by
  obtain ⟨h4, h5⟩ := h
  refine ⟨by rw [kpH_len (by omega)]; unfold kpS; rw [if_neg (by omega)], fun j h1 h2 h3 => ?_⟩
  unfold kpH
  rw [if_neg (by omega)]
  by_cases cj : j = 1
  · subst cj
    refine ⟨X, ?_, hf, hx⟩
    rw [List.getElem?_append_right (by simp; omega)]
    simp [h4]
  · obtain ⟨Y, a1, a2, a3⟩ := h5 (j - 1) (by omega) (by omega) (by omega)
    refine ⟨Y, ?_, ?_, a3⟩
    · rw [List.getElem?_append_left (by simp; omega), List.getElem?_tail, show 4 - j + 1 = 4 - (j - 1) by omega]
      exact a1
    · rw [show c + 1 - j = c - (j - 1) by omega]
      exact a2
theorem HO_kept {E : zE} {D : Nat → Prop} {fs : Nat} {o : oS} {H H1 : Heap} (h : HO E D fs o H) (hk : ∀ q, D q → H1[q]? = H[q]?) : HO E D fs o H1 := by
  obtain ⟨sc, hi, ch, rw, ad, adA, adB, adC, adD, old, pl, fp, XA, XB, XC, XD, st, fr, fo, ti, to, hq, hP, hD⟩ := h
  exact ⟨sc, hi, ch, rw, ad, adA, adB, adC, adD, old, pl, fp, XA, XB, XC, XD, st, fr, fo, ti, to, hq, fun k q hq9 => (hP k q hq9).kept (hk q.1 (hD.2 k q hq9)), hD⟩
section LK
variable {p : Program} {l : Launch} {e : Env} {R : Room} {s : State} {m : MethodId} {args : Array Value} {below : List Frame} {meth : Method} {c : Code} {H : Heap} {locs : List Loc} {cells slots : Nat} {Q : State → Prop}
variable {cc bytes : ByteArray} {maxL nL index : Nat} {ret : Option FieldType} {Ts : List Cond} {rm : Room} {own : String} {rest st0 : List Value} {pc : Nat} {ls : Array Slot}
variable {E : zE} {D A : Nat → Prop} {fs b L k wa : Nat} {xs : Nat → Int32} {o : oS} {cA : ClassId} {f : Nat → Int64}
theorem tk_call (F : CallFix p m c cc nL s args Ts own) (hM : tkM l rm E b L xs k) (cw : CallB R s args own index yL_take bytes maxL ret wsL_take rm 0 0 2 ∧ (Cond.static yL_take).before args s = true) (hG : zG E s) (hX : va_X b L xs s s.heap) (hbl : b < s.heap.size) (hbA : ¬ A b) (hS : va_S A s.heap H locs)
    (hsize : ls.size = nL) (hstack : st0 = .int (nI k) :: .ref b :: rest) (hW : 2 * (F0 m pc ls st0).monitorRoom + (rest.map fun v => v.category).sum ≤ 8) (hdg : decode cc pc = .ok (.invokestatic index, 3)) (hf : cells + 0 ≤ R.cells ∧ slots + 0 ≤ R.slots)
    (kk : ∀ r : Int32, W p l e R s m args below meth c H locs cells slots Q (F0 m (pc + 3) ls (.int r :: rest))) : W p l e R s m args below meth c H locs cells slots Q (F0 m pc ls st0) := by
  refine z_rd (fun _ h => h) (va_runS (e := e) (below := below) (meth := meth) (locs := locs) (As := [.ref b, .int (nI k)]) (rest := rest) (g := F0 m pc ls st0) F hM cw ⟨fun _ U g mk h => ⟨h.1, h.2.1.moved (u := U) (Vm.Alike.refl U.vm), h.2.2.call⟩, fun U hU hW => ⟨rfl, ?_, hG.warm hW⟩⟩ rfl rfl hsize hstack hW hdg hf) (fun r _ => kk r)
  subst hU
  exact (hX.kept (hS.2.1 b hbl hbA)).moved hW.alike
theorem w_ld (hx : p.tables.exec = Jvm.exec) (hb : c.code = cc) (hK : va_K E.1 vwCl (zT E ++ [(cA, .long)]) s) (hW : va_at E.1 vwCl (wa, .inl (cA, 32, .inr (.inl f))) H) {j : Nat} (hj : j < 32) (hdg : decode cc pc = .ok (.laload, 1))
    (kk : W p l e R s m args below meth c H locs cells slots Q (F0 m (pc + 1) ls (.long (f j) :: rest))) : W p l e R s m args below meth c H locs cells slots Q (F0 m pc ls (.int (nI j) :: .ref wa :: rest)) := by
  have hP : va_P E.1 vwCl [(wa, .inl (cA, 32, .inr (.inl f)))] H := fun k q hq => by
    match k, hq with
    | 0, hq => cases hq; exact hW
    | k + 1, hq => simp at hq
  exact va_lald hx hb hK hP 0 3 rfl rfl (vp_in_nI hj (by omega)) hdg (by rw [z_clamp (by omega)]; exact kk)
theorem w_st (hx : p.tables.exec = Jvm.exec) (hb : c.code = cc) (hK : va_K E.1 vwCl (zT E ++ [(cA, .long)]) s) (hO : HO E D fs o H) (hW : va_at E.1 vwCl (wa, .inl (cA, 32, .inr (.inl f))) H) (hnD : ¬ D wa) (hAw : A wa) (hS : va_S A s.heap H locs) {j : Nat} (hj : j < 32) {x : Int64} (hdg : decode cc pc = .ok (.lastore, 1))
    (kk : ∀ (H1 : Heap) (locs1 : List Loc), HO E D fs o H1 → va_at E.1 vwCl (wa, .inl (cA, 32, .inr (.inl (vp_updL f j x)))) H1 → va_S A s.heap H1 locs1 → H.size ≤ H1.size → W p l e R s m args below meth c H1 locs1 cells slots Q (F0 m (pc + 1) ls rest)) : W p l e R s m args below meth c H locs cells slots Q (F0 m pc ls (.long x :: .int (nI j) :: .ref wa :: rest)) := by
  have hin : vp_in (nI j) 32 := vp_in_nI hj (by omega)
  have h0 : H[wa]? = some (arrV cA 32 (fun j => .long (f j))) := by rw [← vp_cell_l]; exact hW
  have hA : ArrOfT s cA .long := (hK.2 3 (cA, .long) rfl).1
  refine W.last (cell := arrV cA 32 (fun j => .long (f j))) hx hb h0 (hA 32 (fun j => .long (f j))) (fun q => by cases q) (by rw [arrV_size]; exact hin) rfl rfl hdg fun H1 e1 z oq => ?_
  refine kk H1 _ (HO_kept hO (fun q hq => oq q (fun h9 => hnD (by rw [← h9]; exact hq)))) ?_ (hS.put z oq hAw) (by rw [z]; exact Nat.le_refl _)
  show H1[wa]? = some (vp_cell _ _)
  have eu : (updV (fun j => Value.long (f j)) j (Value.long x)) = fun i => Value.long (vp_updL f j x i) := by
    funext i
    unfold updV vp_updL
    split <;> rfl
  rw [e1, vp_cell_l, arrV_store, z_clamp (by omega), eu]
end LK

def LC (p : Program) (s : State) (m : MethodId) (c : Code) (A D : Nat → Prop) (E : zE) (b L tm tl fs wa N0 : Nat) (xs : Nat → Int32) (cA : ClassId) : Prop := CallFix p m c cL_law 9 s #[Value.ref b] wsL_law RL ∧ zG E s ∧ zST tm tl A s s.heap ∧ va_X b L xs s s.heap ∧ b < s.heap.size ∧ ¬ A b ∧ (∀ q, D q → A q) ∧ ¬ D wa ∧ A wa ∧ va_K E.1 vwCl (zT E ++ [(cA, .long)]) s ∧ L ≤ 260

set_option maxHeartbeats 16000000 in
set_option maxRecDepth 100000 in
theorem law_undo {p : Program} {e : Env} {s : State} {m : MethodId} {below : List Frame} {meth : Method} {c : Code} {Q : State → Prop} {A D : Nat → Prop} {E : zE} {b L tm tl fs wa N0 : Nat} {xs : Nat → Int32} {cA : ClassId} (l : Launch) (C : LC p s m c A D E b L tm tl fs wa N0 xs cA) (fin : ∀ (H : Heap) (locs : List Loc) (ls : Array Slot) (pc : Nat), va_S A s.heap H locs → decode cL_law pc = .ok (.ireturn, 1) → W p l e room_1 s m #[Value.ref b] below meth c H locs 271 3884 Q (F0 m pc ls [.int (nI 1)])) {hq : List (Nat → Nat → Nat)} {f : Nat → Int64} {c9 : Nat} (hH : HI hq f c9) (hc9 : c9 ≤ 26) : ∀ (fu k : Nat), 5 - k < fu → 1 ≤ k → k ≤ 5 → k ≤ c9 + 1 → ∀ (Z : Nat → Nat → Nat), ∀ (HZ : Heap) (locsZ : List Loc) (ls : Array Slot), HO E D fs (Z, hq.take (5 - k), 0, c0) HZ → va_at E.1 vwCl (wa, .inl (cA, 32, .inr (.inl f))) HZ → va_S A s.heap HZ locsZ → lv_has ls 9 [(0, .ref b), (1, .ref fs), (2, .ref wa), (3, .int (nI c9)), (4, .int (nI k))] → W p l e room_1 s m #[Value.ref b] below meth c HZ locsZ 271 3884 Q (F0 m 461 ls []) := by
  obtain ⟨hF, hG, hZ, hX, hbl, hbA, hDA, hnD, hAw, hK, hL⟩ := id C
  obtain ⟨hx, hb, hml, hown, hts⟩ := id hF
  intro fu
  induction fu with
  | zero => intro k h; exact absurd h (Nat.not_lt_zero _)
  | succ fu ih =>
    intro k hm hk1 hk5 hkc Z HZ locsZ ls hO hW hS hl
    have X520 : (4 < k ∨ c9 < k) → W p l e room_1 s m #[Value.ref b] below meth c HZ locsZ 271 3884 Q (F0 m 520 ls []) := by
      intro hex
      refine lv_iload_n hx hb dL_law_520 rfl (lv_at hl 3 rfl) ?_
      refine lv_iconst (v := nI 4) hx hb dL_law_521 (by decide) ?_
      refine z_icmp_lt (tgt := 534) hx hb dL_law_522 (by decide) (by omega) (by omega) (fun c1 => ?_) (fun c1 => ?_)
      · -- few changes
        refine lv_iconst (v := nI 1) hx hb dL_law_534 (by decide) ?_
        refine lv_goto (tgt := 539) hx hb dL_law_535 (by decide) ?_
        exact fin _ _ _ _ hS dL_law_539
      · -- all undone
        refine lv_aload_n hx hb dL_law_525 rfl (lv_at hl 1 rfl) ?_
        obtain rfl : k = 5 := by omega
        refine o_call (o := (Z, hq.take (5 - 5), 0, c0)) (As := []) (rest := []) hF (U_undo_p l E tm tl D fs (Z, hq.take (5 - 5), 0, c0) rfl) (cwV 0 hts gL_law_X6_undo rfl rfl rfl (by decide +kernel) ⟨Nat.le_of_ble_eq_true rfl, Nat.le_of_ble_eq_true rfl⟩) hG hZ hDA hO hS rfl hl.1 rfl (lv_room (Nat.le_of_ble_eq_true rfl)) dL_law_526 ⟨Nat.le_of_ble_eq_true rfl, Nat.le_of_ble_eq_true rfl⟩ (fun r9 o9 HZ locsZ hp hO hS hsz9 hfr9 => ?_)
        obtain ⟨rfl, rfl⟩ := hp
        have hW := hW.kept (hfr9 _ hW.lt hnD)
        refine lv_bipush (v := (-2)) hx hb dL_law_529 (by decide) ?_
        refine lv_icmp_ne (tgt := 538) hx hb dL_law_531 (by decide) (fun c9 => absurd rfl c9) (fun _ => ?_)
        refine lv_iconst (v := nI 1) hx hb dL_law_534 (by decide) ?_
        refine lv_goto (tgt := 539) hx hb dL_law_535 (by decide) ?_
        exact fin _ _ _ _ hS dL_law_539
    refine lv_iload hx hb dL_law_461 (lv_at hl 4 rfl) ?_
    refine lv_iconst (v := nI 4) hx hb dL_law_463 (by decide) ?_
    refine z_icmp_gt (tgt := 520) hx hb dL_law_464 (by decide) (by omega) (by omega) (fun c1 => ?_) (fun c1 => ?_)
    · -- out
      exact X520 (Or.inl c1)
    · -- on
      refine lv_iload hx hb dL_law_467 (lv_at hl 4 rfl) ?_
      refine lv_iload_n hx hb dL_law_469 rfl (lv_at hl 3 rfl) ?_
      refine z_icmp_gt (tgt := 520) hx hb dL_law_470 (by decide) (by omega) (by omega) (fun c2 => ?_) (fun c2 => ?_)
      · -- out
        exact X520 (Or.inr c2)
      · -- on
        refine lv_aload_n hx hb dL_law_473 rfl (lv_at hl 1 rfl) ?_
        obtain ⟨Y, g1, g2, g3⟩ := hH.2 k hk1 c1 c2
        have et : hq.take (5 - k) = hq.take (4 - k) ++ [Y] := by rw [show 5 - k = 4 - k + 1 by omega, List.take_succ, g1]; rfl
        have eln : (hq.take (4 - k)).length = 4 - k := by rw [List.length_take, hH.1]; omega
        refine o_call (o := (Z, hq.take (5 - k), 0, c0)) (As := []) (rest := []) hF (U_undo_y l E tm tl D fs (Z, hq.take (5 - k), 0, c0) (hq.take (4 - k)) Y et) (cwV 0 hts gL_law_X6_undo rfl rfl rfl (by decide +kernel) ⟨Nat.le_of_ble_eq_true rfl, Nat.le_of_ble_eq_true rfl⟩) hG hZ hDA hO hS rfl hl.1 rfl (lv_room (Nat.le_of_ble_eq_true rfl)) dL_law_474 ⟨Nat.le_of_ble_eq_true rfl, Nat.le_of_ble_eq_true rfl⟩ (fun r9 o9 HZ locsZ hp hO hS hsz9 hfr9 => ?_)
        obtain ⟨er, rfl⟩ := hp
        have hW := hW.kept (hfr9 _ hW.lt hnD)
        obtain rfl : r9 = nI (4 - k) := by rw [er, eln]
        refine lv_istore (lv' := [(5, .int (nI (4 - k))), (0, .ref b), (1, .ref fs), (2, .ref wa), (3, .int (nI c9)), (4, .int (nI k))]) hx hb dL_law_477 hl (by decide) rfl (fun ls hl => ?_)
        refine lv_iload hx hb dL_law_479 (lv_at hl 0 rfl) ?_
        refine z_if_lt (tgt := 512) hx hb dL_law_481 (by decide) (by omega) ?_
        refine lv_aload_n hx hb dL_law_484 rfl (lv_at hl 2 rfl) ?_
        refine o_callL (o := (Y, hq.take (4 - k), 0, c0)) (As := [.ref fs]) (rest := []) hF (c_L_state l E tm tl D fs (Y, hq.take (4 - k), 0, c0) g3) (cwS 1 hts gL_law_L_state rfl rfl rfl (by decide +kernel) ⟨Nat.le_of_ble_eq_true rfl, Nat.le_of_ble_eq_true rfl⟩) hG hZ hDA hO hS rfl hl.1 rfl (lv_room (Nat.le_of_ble_eq_true rfl)) dL_law_485 ⟨Nat.le_of_ble_eq_true rfl, Nat.le_of_ble_eq_true rfl⟩ (fun r9 o9 HZ locsZ hp hO hS hsz9 hfr9 => ?_)
        obtain ⟨rfl, rfl⟩ := hp
        have hW := hW.kept (hfr9 _ hW.lt hnD)
        refine lv_aload_n hx hb dL_law_488 rfl (lv_at hl 3 rfl) ?_
        refine lv_iload_n hx hb dL_law_489 rfl (lv_at hl 4 rfl) ?_
        refine lv_iload hx hb dL_law_490 (lv_at hl 5 rfl) ?_
        refine z_isub (a := c9) (b := k) hx hb dL_law_492 (by omega) ?_
        refine w_ld hx hb hK hW (j := c9 - k) (by omega) dL_law_493 ?_
        rw [g2]
        refine W.lcmp hx hb dL_law_494 ?_
        refine lv_if_ne (tgt := 512) hx hb dL_law_495 (by decide) (fun c9 => absurd ((lg_cmp_eq _ _).mpr rfl) c9) (fun _ => ?_)
        refine lv_iload_n hx hb dL_law_498 rfl (lv_at hl 4 rfl) ?_
        refine lv_iconst (v := nI 3) hx hb dL_law_499 (by decide) ?_
        refine z_icmp_le (tgt := 514) hx hb dL_law_500 (by decide) (by omega) (by omega) (fun c3 => ?_) (fun c3 => ?_)
        · -- few changes
          refine z_iinc (k := 5) (d := 1) (lv' := [(4, .int (nI (k + 1))), (5, .int (nI (4 - k))), (0, .ref b), (1, .ref fs), (2, .ref wa), (3, .int (nI c9))]) hx hb dL_law_514 (by decide) hl rfl (by decide) rfl (fun ls hl => ?_)
          refine lv_goto (tgt := 461) hx hb dL_law_517 (by decide) ?_
          have hl := lv_sub hl [2, 3, 4, 5, 0] rfl
          exact ih (k + 1) (by omega) (by omega) (by omega) (by omega) Y _ _ _ (by rw [show 5 - (k + 1) = 4 - k by omega]; exact hO) hW hS hl
        · -- four
          refine lv_iload hx hb dL_law_503 (lv_at hl 0 rfl) ?_
          refine lv_iconst (v := nI 4) hx hb dL_law_505 (by decide) ?_
          refine lv_iload hx hb dL_law_506 (lv_at hl 5 rfl) ?_
          refine z_isub (a := 4) (b := k) hx hb dL_law_508 (by omega) ?_
          refine lv_icmp_eq (tgt := 514) hx hb dL_law_509 (by decide) (fun _ => ?_) (fun c9 => absurd rfl c9)
          refine z_iinc (k := 5) (d := 1) (lv' := [(4, .int (nI (k + 1))), (5, .int (nI (4 - k))), (0, .ref b), (1, .ref fs), (2, .ref wa), (3, .int (nI c9))]) hx hb dL_law_514 (by decide) hl rfl (by decide) rfl (fun ls hl => ?_)
          refine lv_goto (tgt := 461) hx hb dL_law_517 (by decide) ?_
          have hl := lv_sub hl [2, 3, 4, 5, 0] rfl
          exact ih (k + 1) (by omega) (by omega) (by omega) (by omega) Y _ _ _ (by rw [show 5 - (k + 1) = 4 - k by omega]; exact hO) hW hS hl

set_option maxHeartbeats 16000000 in
set_option maxRecDepth 100000 in
theorem law_changes {p : Program} {e : Env} {s : State} {m : MethodId} {below : List Frame} {meth : Method} {c : Code} {Q : State → Prop} {A D : Nat → Prop} {E : zE} {b L tm tl fs wa N0 : Nat} {xs : Nat → Int32} {cA : ClassId} (l : Launch) (C : LC p s m c A D E b L tm tl fs wa N0 xs cA) (fin : ∀ (H : Heap) (locs : List Loc) (ls : Array Slot) (pc : Nat), va_S A s.heap H locs → decode cL_law pc = .ok (.ireturn, 1) → W p l e room_1 s m #[Value.ref b] below meth c H locs 271 3884 Q (F0 m pc ls [.int (nI 1)])) : ∀ (fu k : Nat), 26 - k < fu → k ≤ 26 → ∀ (X : Nat → Nat → Nat) (hq : List (Nat → Nat → Nat)) (f : Nat → Int64) (c9 : Nat), IV X (2000 * k) (40 * k) → HI hq f c9 → c9 ≤ k → ∀ (HZ : Heap) (locsZ : List Loc) (ls : Array Slot), HO E D fs (X, hq, 0, c0) HZ → va_at E.1 vwCl (wa, .inl (cA, 32, .inr (.inl f))) HZ → va_S A s.heap HZ locsZ → lv_has ls 9 [(0, .ref b), (1, .ref fs), (2, .ref wa), (3, .int (nI c9)), (4, .int (nI k))] → W p l e room_1 s m #[Value.ref b] below meth c HZ locsZ 271 3884 Q (F0 m 145 ls []) := by
  obtain ⟨hF, hG, hZ, hX, hbl, hbA, hDA, hnD, hAw, hK, hL⟩ := id C
  obtain ⟨hx, hb, hml, hown, hts⟩ := id hF
  intro fu
  induction fu with
  | zero => intro k h; exact absurd h (Nat.not_lt_zero _)
  | succ fu ih =>
    intro k hm hk26 X hq f c9 hI hH hck HZ locsZ ls hO hW hS hl
    have xb : XB X := GI_XB hI.1 (by omega)
    refine lv_iload hx hb dL_law_145 (lv_at hl 4 rfl) ?_
    refine lv_bipush (v := nI 26) hx hb dL_law_147 (by decide) ?_
    refine z_icmp_ge (tgt := 449) hx hb dL_law_149 (by decide) (by omega) (by omega) (fun c1 => ?_) (fun c1 => ?_)
    · -- out
      obtain rfl : k = 26 := by omega
      refine lv_aload_n hx hb dL_law_449 rfl (lv_at hl 1 rfl) ?_
      refine o_callS (o := (X, hq, 0, c0)) (As := [.ref fs]) (rest := []) hF (c_L_refused l E tm tl D fs (X, hq, 0, c0) xb (fun i hi => by have h8 : i < X 13 0 := hi; have h9 := hI.2.1; have := hI.2.2.1 i (by omega); show 1 ≤ X 0 i; omega)) (cwS 1 hts gL_law_L_refused rfl rfl rfl (by decide +kernel) ⟨Nat.le_of_ble_eq_true rfl, Nat.le_of_ble_eq_true rfl⟩) hG hZ hDA hO hS rfl hl.1 rfl (lv_room (Nat.le_of_ble_eq_true rfl)) dL_law_450 ⟨Nat.le_of_ble_eq_true rfl, Nat.le_of_ble_eq_true rfl⟩ (fun r9 o9 HZ locsZ hp hO hS hsz9 hfr9 => ?_)
      obtain ⟨rfl, rfl⟩ := hp
      have hW := hW.kept (hfr9 _ hW.lt hnD)
      refine lv_if_ne (tgt := 458) hx hb dL_law_453 (by decide) (fun _ => ?_) (fun c9 => absurd c9 (by decide))
      refine lv_iconst (v := nI 1) hx hb dL_law_458 (by decide) ?_
      refine lv_istore (lv' := [(4, .int (nI 1)), (0, .ref b), (1, .ref fs), (2, .ref wa), (3, .int (nI c9))]) hx hb dL_law_459 hl (by decide) rfl (fun ls hl => ?_)
      have hl := lv_sub hl [1, 2, 3, 4, 0] rfl
      exact law_undo l C fin hH (by omega) (5 - 1 + 1) 1 (Nat.lt_succ_self _) (by omega) (by omega) (by omega) X _ _ _ (by rw [List.take_of_length_le (by have := hH.1; omega)]; exact hO) hW hS hl
    · -- a change
      refine lv_aload_n hx hb dL_law_152 rfl (lv_at hl 0 rfl) ?_
      refine lv_bipush (v := nI 30) hx hb dL_law_153 (by decide) ?_
      refine lv_iload hx hb dL_law_155 (lv_at hl 4 rfl) ?_
      refine z_iadd (a := 30) (b := k) hx hb dL_law_157 ?_
      refine tk_call (k := 30 + k) (rest := []) hF (c_L_take l E b L xs (30 + k) hL (by omega)) (cwS 2 hts gL_law_L_take rfl rfl rfl (by decide +kernel) ⟨Nat.le_of_ble_eq_true rfl, Nat.le_of_ble_eq_true rfl⟩) hG hX hbl hbA hS hl.1 rfl (lv_room (Nat.le_of_ble_eq_true rfl)) dL_law_158 ⟨Nat.le_of_ble_eq_true rfl, Nat.le_of_ble_eq_true rfl⟩ (fun x0 => ?_)
      refine lv_istore (lv' := [(5, .int x0), (0, .ref b), (1, .ref fs), (2, .ref wa), (3, .int (nI c9)), (4, .int (nI k))]) hx hb dL_law_161 hl (by decide) rfl (fun ls hl => ?_)
      refine lv_iload hx hb dL_law_163 (lv_at hl 0 rfl) ?_
      refine lv_iconst (v := nI 4) hx hb dL_law_165 (by decide) ?_
      refine lv_ishr hx hb dL_law_166 ?_
      refine lv_topi (fun v1_166 ev1_166 => ?_)
      refine lv_iconst (v := nI 4) hx hb dL_law_167 (by decide) ?_
      refine z_rd (fun _ h => h) (va_runS (As := [.int v1_166, .int (nI 4)]) (rest := []) hF (c_L_part l E v1_166 4 (by omega) (by omega)) (cwS 2 hts gL_law_L_part rfl rfl rfl (by decide +kernel) ⟨Nat.le_of_ble_eq_true rfl, Nat.le_of_ble_eq_true rfl⟩) (z_preR zP_nil hG) rfl rfl hl.1 rfl (lv_room (Nat.le_of_ble_eq_true rfl)) dL_law_168 ⟨Nat.le_of_ble_eq_true rfl, Nat.le_of_ble_eq_true rfl⟩) (fun r9 hp => ?_)
      obtain ⟨st9, hst9, rfl⟩ := hp
      refine lv_istore (lv' := [(6, .int (nI st9)), (5, .int x0), (0, .ref b), (1, .ref fs), (2, .ref wa), (3, .int (nI c9)), (4, .int (nI k))]) hx hb dL_law_171 hl (by decide) rfl (fun ls hl => ?_)
      refine lv_iload hx hb dL_law_173 (lv_at hl 1 rfl) ?_
      refine lv_bipush (v := nI 10) hx hb dL_law_175 (by decide) ?_
      refine z_rd (fun _ h => h) (va_runS (As := [.int x0, .int (nI 10)]) (rest := []) hF (c_L_part l E x0 10 (by omega) (by omega)) (cwS 2 hts gL_law_L_part rfl rfl rfl (by decide +kernel) ⟨Nat.le_of_ble_eq_true rfl, Nat.le_of_ble_eq_true rfl⟩) (z_preR zP_nil hG) rfl rfl hl.1 rfl (lv_room (Nat.le_of_ble_eq_true rfl)) dL_law_177 ⟨Nat.le_of_ble_eq_true rfl, Nat.le_of_ble_eq_true rfl⟩) (fun r9 hp => ?_)
      obtain ⟨kd, hkd, rfl⟩ := hp
      refine lv_istore (lv' := [(7, .int (nI kd)), (6, .int (nI st9)), (5, .int x0), (0, .ref b), (1, .ref fs), (2, .ref wa), (3, .int (nI c9)), (4, .int (nI k))]) hx hb dL_law_180 hl (by decide) rfl (fun ls hl => ?_)
      refine lv_aload_n hx hb dL_law_182 rfl (lv_at hl 5 rfl) ?_
      refine lv_iload_n hx hb dL_law_183 rfl (lv_at hl 6 rfl) ?_
      refine lv_aload_n hx hb dL_law_184 rfl (lv_at hl 4 rfl) ?_
      refine o_callL (o := (X, hq, 0, c0)) (As := [.ref fs]) (rest := [.int (nI c9), .ref wa]) hF (c_L_state l E tm tl D fs (X, hq, 0, c0) xb) (cwS 1 hts gL_law_L_state rfl rfl rfl (by decide +kernel) ⟨Nat.le_of_ble_eq_true rfl, Nat.le_of_ble_eq_true rfl⟩) hG hZ hDA hO hS rfl hl.1 rfl (lv_room (Nat.le_of_ble_eq_true rfl)) dL_law_185 ⟨Nat.le_of_ble_eq_true rfl, Nat.le_of_ble_eq_true rfl⟩ (fun r9 o9 HZ locsZ hp hO hS hsz9 hfr9 => ?_)
      obtain ⟨rfl, rfl⟩ := hp
      have hW := hW.kept (hfr9 _ hW.lt hnD)
      refine w_st hx hb hK hO hW hnD hAw hS (j := c9) (by omega) dL_law_188 (fun HZ locsZ hO hW hS hsz9 => ?_)
      have hH2 : HI hq (vp_updL f c9 (dgX X)) c9 := HI_up hH
      have hfc : (vp_updL f c9 (dgX X)) c9 = dgX X := by unfold vp_updL; exact if_pos rfl
      have K : ∀ (r : Int32) (o9 : oS), ((r < 0 ∧ o9 = (X, hq, 0, c0)) ∨ (0 ≤ r ∧ ∃ Y, o9 = okp (X, hq, 0, c0) Y ∧ IV Y (2000 * (k + 1)) (40 * (k + 1)))) → ∀ (HZ : Heap) (locsZ : List Loc) (ls : Array Slot), HO E D fs o9 HZ → va_at E.1 vwCl (wa, .inl (cA, 32, .inr (.inl (vp_updL f c9 (dgX X))))) HZ → va_S A s.heap HZ locsZ → lv_has ls 9 [(0, .ref b), (1, .ref fs), (2, .ref wa), (3, .int (nI c9)), (4, .int (nI k))] → W p l e room_1 s m #[Value.ref b] below meth c HZ locsZ 271 3884 Q (F0 m 410 ls [.int r]) := by
        intro r o9 hpost HZ locsZ ls hO hW hS hl
        refine lv_istore (lv' := [(8, .int r), (0, .ref b), (1, .ref fs), (2, .ref wa), (3, .int (nI c9)), (4, .int (nI k))]) hx hb dL_law_410 hl (by decide) rfl (fun ls hl => ?_)
        refine lv_iload_n hx hb dL_law_412 rfl (lv_at hl 4 rfl) ?_
        refine lv_iload hx hb dL_law_413 (lv_at hl 0 rfl) ?_
        rcases hpost with ⟨hr, rfl⟩ | ⟨hr, Y, rfl, hIY⟩
        · -- refused
          refine lv_if_lt (tgt := 422) hx hb dL_law_415 (by decide) (fun _ => ?_) (fun c9 => absurd hr c9)
          refine lv_iconst (v := nI 0) hx hb dL_law_422 (by decide) ?_
          refine z_iadd (a := c9) (b := 0) hx hb dL_law_423 ?_
          refine lv_istore_n (lv' := [(3, .int (nI (c9 + 0))), (8, .int r), (0, .ref b), (1, .ref fs), (2, .ref wa), (4, .int (nI k))]) hx hb dL_law_424 rfl hl (by decide) rfl (fun ls hl => ?_)
          refine lv_iload hx hb dL_law_425 (lv_at hl 1 rfl) ?_
          refine lv_if_ge (tgt := 443) hx hb dL_law_427 (by decide) (fun h9 => absurd hr (Int32.not_lt.mpr h9)) (fun _ => ?_)
          refine lv_aload_n hx hb dL_law_430 rfl (lv_at hl 3 rfl) ?_
          refine o_callL (o := (X, hq, 0, c0)) (As := [.ref fs]) (rest := []) hF (c_L_state l E tm tl D fs (X, hq, 0, c0) xb) (cwS 1 hts gL_law_L_state rfl rfl rfl (by decide +kernel) ⟨Nat.le_of_ble_eq_true rfl, Nat.le_of_ble_eq_true rfl⟩) hG hZ hDA hO hS rfl hl.1 rfl (lv_room (Nat.le_of_ble_eq_true rfl)) dL_law_431 ⟨Nat.le_of_ble_eq_true rfl, Nat.le_of_ble_eq_true rfl⟩ (fun r9 o9 HZ locsZ hp hO hS hsz9 hfr9 => ?_)
          obtain ⟨rfl, rfl⟩ := hp
          have hW := hW.kept (hfr9 _ hW.lt hnD)
          refine lv_aload_n hx hb dL_law_434 rfl (lv_at hl 4 rfl) ?_
          refine lv_iload_n hx hb dL_law_435 rfl (lv_at hl 0 rfl) ?_
          refine w_ld hx hb hK hW (j := c9 + 0) (by omega) dL_law_436 ?_
          rw [show c9 + 0 = c9 from rfl, hfc]
          refine W.lcmp hx hb dL_law_437 ?_
          refine lv_if_eq (tgt := 443) hx hb dL_law_438 (by decide) (fun _ => ?_) (fun c9 => absurd ((lg_cmp_eq _ _).mpr rfl) c9)
          refine z_iinc (k := 5) (d := 1) (lv' := [(4, .int (nI (k + 1))), (3, .int (nI (c9 + 0))), (8, .int r), (0, .ref b), (1, .ref fs), (2, .ref wa)]) hx hb dL_law_443 (by decide) hl rfl (by decide) rfl (fun ls hl => ?_)
          refine lv_goto (tgt := 145) hx hb dL_law_446 (by decide) ?_
          have hl := lv_sub hl [3, 4, 5, 1, 0] rfl
          exact ih (k + 1) (by omega) (by omega) X hq _ c9 ⟨GI_le hI.1 (by omega), hI.2.1, hI.2.2.1, by have := hI.2.2.2; omega⟩ hH2 (by omega) _ _ _ hO hW hS hl
        · -- done
          refine lv_if_lt (tgt := 422) hx hb dL_law_415 (by decide) (fun h9 => absurd h9 (Int32.not_lt.mpr hr)) (fun _ => ?_)
          refine lv_iconst (v := nI 1) hx hb dL_law_418 (by decide) ?_
          refine lv_goto (tgt := 423) hx hb dL_law_419 (by decide) ?_
          refine z_iadd (a := c9) (b := 1) hx hb dL_law_423 ?_
          refine lv_istore_n (lv' := [(3, .int (nI (c9 + 1))), (8, .int r), (0, .ref b), (1, .ref fs), (2, .ref wa), (4, .int (nI k))]) hx hb dL_law_424 rfl hl (by decide) rfl (fun ls hl => ?_)
          refine lv_iload hx hb dL_law_425 (lv_at hl 1 rfl) ?_
          refine lv_if_ge (tgt := 443) hx hb dL_law_427 (by decide) (fun _ => ?_) (fun h9 => absurd hr h9)
          refine z_iinc (k := 5) (d := 1) (lv' := [(4, .int (nI (k + 1))), (3, .int (nI (c9 + 1))), (8, .int r), (0, .ref b), (1, .ref fs), (2, .ref wa)]) hx hb dL_law_443 (by decide) hl rfl (by decide) rfl (fun ls hl => ?_)
          refine lv_goto (tgt := 145) hx hb dL_law_446 (by decide) ?_
          have hl := lv_sub hl [3, 4, 5, 1, 0] rfl
          exact ih (k + 1) (by omega) (by omega) Y (kpH hq X) _ (c9 + 1) hIY (HI_s hH2 hfc xb) (by omega) _ _ _ hO hW hS hl
      refine lv_iload hx hb dL_law_189 (lv_at hl 0 rfl) ?_
      refine lv_iconst (v := nI 3) hx hb dL_law_191 (by decide) ?_
      refine z_icmp_ge (tgt := 229) hx hb dL_law_192 (by decide) (by omega) (by omega) (fun d1 => ?_) (fun d1 => ?_)
      · -- not pluck
        refine lv_iload hx hb dL_law_229 (lv_at hl 0 rfl) ?_
        refine lv_iconst (v := nI 5) hx hb dL_law_231 (by decide) ?_
        refine z_icmp_ge (tgt := 254) hx hb dL_law_232 (by decide) (by omega) (by omega) (fun d2 => ?_) (fun d2 => ?_)
        · -- not press
          refine lv_iload hx hb dL_law_254 (lv_at hl 0 rfl) ?_
          refine lv_iconst (v := nI 5) hx hb dL_law_256 (by decide) ?_
          refine z_icmp_ne (tgt := 280) hx hb dL_law_257 (by decide) (by omega) (by omega) (fun d3 => ?_) (fun d3 => ?_)
          · -- not touch
            refine lv_iload hx hb dL_law_280 (lv_at hl 0 rfl) ?_
            refine lv_bipush (v := nI 6) hx hb dL_law_282 (by decide) ?_
            refine z_icmp_ne (tgt := 317) hx hb dL_law_284 (by decide) (by omega) (by omega) (fun d4 => ?_) (fun d4 => ?_)
            · -- not level
              refine lv_iload hx hb dL_law_317 (lv_at hl 0 rfl) ?_
              refine lv_bipush (v := nI 7) hx hb dL_law_319 (by decide) ?_
              refine z_icmp_ne (tgt := 343) hx hb dL_law_321 (by decide) (by omega) (by omega) (fun d5 => ?_) (fun d5 => ?_)
              · -- not run
                refine lv_iload hx hb dL_law_343 (lv_at hl 0 rfl) ?_
                refine lv_bipush (v := nI 8) hx hb dL_law_345 (by decide) ?_
                refine z_icmp_ne (tgt := 370) hx hb dL_law_347 (by decide) (by omega) (by omega) (fun d6 => ?_) (fun d6 => ?_)
                · -- damp or tune
                  refine lv_iload hx hb dL_law_370 (lv_at hl 2 rfl) ?_
                  refine lv_bipush (v := nI 6) hx hb dL_law_372 (by decide) ?_
                  refine lv_ishr hx hb dL_law_374 ?_
                  refine lv_topi (fun v2_374 ev2_374 => ?_)
                  refine lv_iconst (v := nI 2) hx hb dL_law_375 (by decide) ?_
                  refine z_rd (fun _ h => h) (va_runS (As := [.int v2_374, .int (nI 2)]) (rest := []) hF (c_L_part l E v2_374 2 (by omega) (by omega)) (cwS 2 hts gL_law_L_part rfl rfl rfl (by decide +kernel) ⟨Nat.le_of_ble_eq_true rfl, Nat.le_of_ble_eq_true rfl⟩) (z_preR zP_nil hG) rfl rfl hl.1 rfl (lv_room (Nat.le_of_ble_eq_true rfl)) dL_law_376 ⟨Nat.le_of_ble_eq_true rfl, Nat.le_of_ble_eq_true rfl⟩) (fun r9 hp => ?_)
                  obtain ⟨p9, hp9, rfl⟩ := hp
                  refine z_if_ne (tgt := 391) hx hb dL_law_379 (by decide) (by omega) (fun d7 => ?_) (fun d7 => ?_)
                  · -- tune
                    refine lv_aload_n hx hb dL_law_391 rfl (lv_at hl 4 rfl) ?_
                    refine lv_iload hx hb dL_law_392 (lv_at hl 1 rfl) ?_
                    refine lv_sipush (v := nI 1000) hx hb dL_law_394 (by decide) ?_
                    refine lv_iload hx hb dL_law_397 (lv_at hl 2 rfl) ?_
                    refine lv_iconst (v := nI 5) hx hb dL_law_399 (by decide) ?_
                    refine lv_ishr hx hb dL_law_400 ?_
                    refine lv_topi (fun v3_400 ev3_400 => ?_)
                    refine lv_ldc (v := nI 9000000) hx hb hown (hts (.constant RL 210 9000000) (by decide +kernel)) dL_law_401 ?_
                    refine z_rd (fun _ h => h) (va_runS (As := [.int v3_400, .int (nI 9000000)]) (rest := [.int (nI 1000), .int (nI st9), .ref fs]) hF (c_L_part l E v3_400 9000000 (by omega) (by omega)) (cwS 2 hts gL_law_L_part rfl rfl rfl (by decide +kernel) ⟨Nat.le_of_ble_eq_true rfl, Nat.le_of_ble_eq_true rfl⟩) (z_preR zP_nil hG) rfl rfl hl.1 rfl (lv_room (Nat.le_of_ble_eq_true rfl)) dL_law_403 ⟨Nat.le_of_ble_eq_true rfl, Nat.le_of_ble_eq_true rfl⟩) (fun r9 hp => ?_)
                    obtain ⟨t9, ht9, rfl⟩ := hp
                    refine z_iadd (a := 1000) (b := t9) hx hb dL_law_406 ?_
                    have htb := xb.2.2.2.2.1 st9 hst9
                    refine o_call (o := (X, hq, 0, c0)) (As := [.int (nI st9), .int (nI (1000 + t9))]) (rest := []) hF (U_tune_y l E tm tl D fs (X, hq, 0, c0) st9 (1000 + t9) hst9 (by omega) (by omega)) (cwV 2 hts gL_law_X6_tune rfl rfl rfl (by decide +kernel) ⟨Nat.le_of_ble_eq_true rfl, Nat.le_of_ble_eq_true rfl⟩) hG hZ hDA hO hS rfl hl.1 rfl (lv_room (Nat.le_of_ble_eq_true rfl)) dL_law_407 ⟨Nat.le_of_ble_eq_true rfl, Nat.le_of_ble_eq_true rfl⟩ (fun r9 o9 HZ locsZ hp hO hS hsz9 hfr9 => ?_)
                    obtain ⟨rfl, rfl⟩ := hp
                    have hW := hW.kept (hfr9 _ hW.lt hnD)
                    have hl := lv_sub hl [3, 4, 5, 6, 7] rfl
                    exact K _ _ (Or.inr ⟨nI_le (a := 0) (Nat.zero_le _) (by show X 3 st9 < _; omega), tuX X st9 (1000 + t9), rfl, IV_of hI (GI_le (GI_tu hI.1 hst9 (by omega)) (by omega)) rfl rfl (by have := hI.2.2.2; show X 13 2 ≤ _; omega)⟩) _ _ _ hO hW hS hl
                  · -- damp
                    refine lv_aload_n hx hb dL_law_382 rfl (lv_at hl 4 rfl) ?_
                    refine lv_iload hx hb dL_law_383 (lv_at hl 1 rfl) ?_
                    refine o_call (o := (X, hq, 0, c0)) (As := [.int (nI st9)]) (rest := []) hF (U_damp_y l E tm tl D fs (X, hq, 0, c0) xb st9 hst9) (cwV 1 hts gL_law_X6_damp rfl rfl rfl (by decide +kernel) ⟨Nat.le_of_ble_eq_true rfl, Nat.le_of_ble_eq_true rfl⟩) hG hZ hDA hO hS rfl hl.1 rfl (lv_room (Nat.le_of_ble_eq_true rfl)) dL_law_385 ⟨Nat.le_of_ble_eq_true rfl, Nat.le_of_ble_eq_true rfl⟩ (fun r9 o9 HZ locsZ hp hO hS hsz9 hfr9 => ?_)
                    obtain ⟨rfl, rfl⟩ := hp
                    have hW := hW.kept (hfr9 _ hW.lt hnD)
                    have hpc := popc_le (mhL (X 9) (X 12 4) st9 12)
                    refine lv_goto (tgt := 410) hx hb dL_law_388 (by decide) ?_
                    have hl := lv_sub hl [3, 4, 5, 6, 7] rfl
                    exact K _ _ (Or.inr ⟨nI_le (a := 0) (Nat.zero_le _) (by show popc (mhL (X 9) (X 12 4) st9 12) < _; omega), daX X st9, rfl, IV_of hI (GI_le (GI_da hI.1 hst9) (by omega)) rfl rfl (by have := hI.2.2.2; show X 13 2 ≤ _; omega)⟩) _ _ _ hO hW hS hl
                · -- set
                  refine lv_aload_n hx hb dL_law_350 rfl (lv_at hl 4 rfl) ?_
                  refine lv_iload hx hb dL_law_351 (lv_at hl 1 rfl) ?_
                  refine lv_iload hx hb dL_law_353 (lv_at hl 2 rfl) ?_
                  refine lv_bipush (v := nI 6) hx hb dL_law_355 (by decide) ?_
                  refine lv_ishr hx hb dL_law_357 ?_
                  refine lv_topi (fun v2_357 ev2_357 => ?_)
                  refine lv_sipush (v := nI 900) hx hb dL_law_358 (by decide) ?_
                  refine z_rd (fun _ h => h) (va_runS (As := [.int v2_357, .int (nI 900)]) (rest := [.int (nI st9), .ref fs]) hF (c_L_part l E v2_357 900 (by omega) (by omega)) (cwS 2 hts gL_law_L_part rfl rfl rfl (by decide +kernel) ⟨Nat.le_of_ble_eq_true rfl, Nat.le_of_ble_eq_true rfl⟩) (z_preR zP_nil hG) rfl rfl hl.1 rfl (lv_room (Nat.le_of_ble_eq_true rfl)) dL_law_361 ⟨Nat.le_of_ble_eq_true rfl, Nat.le_of_ble_eq_true rfl⟩) (fun r9 hp => ?_)
                  obtain ⟨v9, hv9, rfl⟩ := hp
                  have hsb : X 12 st9 ≤ 1000000 := by
                    obtain rfl | rfl | rfl | rfl : st9 = 0 ∨ st9 = 1 ∨ st9 = 2 ∨ st9 = 3 := by omega
                    · have := xb.2.2.2.2.2.2.2.2.2.2.2.2.1; omega
                    · have := xb.2.2.2.2.2.2.2.2.2.2.2.2.2.1; omega
                    · have := xb.2.2.2.2.2.2.2.2.2.2.2.2.2.2.1; omega
                    · have := xb.2.2.2.2.2.2.2.2.2.2.2.2.2.2.2.1.2; omega
                  by_cases c5 : stO st9 v9
                  · -- in range
                    refine o_call (o := (X, hq, 0, c0)) (As := [.int (nI st9), .int (nI v9)]) (rest := []) hF (U_set_y l E tm tl D fs (X, hq, 0, c0) st9 v9 c5) (cwV 2 hts gL_law_X6_set rfl rfl rfl (by decide +kernel) ⟨Nat.le_of_ble_eq_true rfl, Nat.le_of_ble_eq_true rfl⟩) hG hZ hDA hO hS rfl hl.1 rfl (lv_room (Nat.le_of_ble_eq_true rfl)) dL_law_364 ⟨Nat.le_of_ble_eq_true rfl, Nat.le_of_ble_eq_true rfl⟩ (fun r9 o9 HZ locsZ hp hO hS hsz9 hfr9 => ?_)
                    obtain ⟨rfl, rfl⟩ := hp
                    have hW := hW.kept (hfr9 _ hW.lt hnD)
                    refine lv_goto (tgt := 410) hx hb dL_law_367 (by decide) ?_
                    have hl := lv_sub hl [3, 4, 5, 6, 7] rfl
                    exact K _ _ (Or.inr ⟨nI_le (a := 0) (Nat.zero_le _) (by show X 12 st9 < _; omega), seK X st9 v9, rfl, IV_of hI (GI_le (GI_se hI.1 (by omega) c5) (by omega)) rfl rfl (by have := hI.2.2.2; show X 13 2 ≤ _; omega)⟩) _ _ _ hO hW hS hl
                  · -- out of range
                    refine o_call (o := (X, hq, 0, c0)) (As := [.int (nI st9), .int (nI v9)]) (rest := []) hF (U_set_i l E tm tl D fs (X, hq, 0, c0) (nI st9) (nI v9) (fun h9 => by obtain ⟨k7, w7, e1, e2, -, h7⟩ := can_n h9; have hb7 := can_b h7; have hb8 := mstF_b k7; obtain rfl := z_inj (by omega) (by omega) e1; obtain rfl := z_inj (by omega) (by omega) e2; exact c5 h7)) (cwV 2 hts gL_law_X6_set rfl rfl rfl (by decide +kernel) ⟨Nat.le_of_ble_eq_true rfl, Nat.le_of_ble_eq_true rfl⟩) hG hZ hDA hO hS rfl hl.1 rfl (lv_room (Nat.le_of_ble_eq_true rfl)) dL_law_364 ⟨Nat.le_of_ble_eq_true rfl, Nat.le_of_ble_eq_true rfl⟩ (fun r9 o9 HZ locsZ hp hO hS hsz9 hfr9 => ?_)
                    obtain ⟨rfl, rfl⟩ := hp
                    have hW := hW.kept (hfr9 _ hW.lt hnD)
                    refine lv_goto (tgt := 410) hx hb dL_law_367 (by decide) ?_
                    have hl := lv_sub hl [3, 4, 5, 6, 7] rfl
                    exact K _ _ (Or.inl ⟨by decide, rfl⟩) _ _ _ hO hW hS hl
              · -- run
                refine lv_aload_n hx hb dL_law_324 rfl (lv_at hl 4 rfl) ?_
                refine lv_iconst (v := nI 1) hx hb dL_law_325 (by decide) ?_
                refine lv_iload hx hb dL_law_326 (lv_at hl 2 rfl) ?_
                refine lv_bipush (v := nI 6) hx hb dL_law_328 (by decide) ?_
                refine lv_ishr hx hb dL_law_330 ?_
                refine lv_topi (fun v2_330 ev2_330 => ?_)
                refine lv_bipush (v := nI 40) hx hb dL_law_331 (by decide) ?_
                refine z_rd (fun _ h => h) (va_runS (As := [.int v2_330, .int (nI 40)]) (rest := [.int (nI 1), .ref fs]) hF (c_L_part l E v2_330 40 (by omega) (by omega)) (cwS 2 hts gL_law_L_part rfl rfl rfl (by decide +kernel) ⟨Nat.le_of_ble_eq_true rfl, Nat.le_of_ble_eq_true rfl⟩) (z_preR zP_nil hG) rfl rfl hl.1 rfl (lv_room (Nat.le_of_ble_eq_true rfl)) dL_law_333 ⟨Nat.le_of_ble_eq_true rfl, Nat.le_of_ble_eq_true rfl⟩) (fun r9 hp => ?_)
                obtain ⟨t9, ht9, rfl⟩ := hp
                refine z_iadd (a := 1) (b := t9) hx hb dL_law_336 ?_
                have htk := hI.2.2.2
                refine o_call (o := (X, hq, 0, c0)) (As := [.int (nI (1 + t9))]) (rest := []) hF (U_run_y l E tm tl D fs (X, hq, 0, c0) xb (1 + t9) (by omega) (by omega) (by show X 13 2 + (1 + t9) ≤ 100000; omega)) (cwV 1 hts gL_law_X6_run rfl rfl rfl (by decide +kernel) ⟨Nat.le_of_ble_eq_true rfl, Nat.le_of_ble_eq_true rfl⟩) hG hZ hDA hO hS rfl hl.1 rfl (lv_room (Nat.le_of_ble_eq_true rfl)) dL_law_337 ⟨Nat.le_of_ble_eq_true rfl, Nat.le_of_ble_eq_true rfl⟩ (fun r9 o9 HZ locsZ hp hO hS hsz9 hfr9 => ?_)
                obtain ⟨rfl, rfl⟩ := hp
                have hW := hW.kept (hfr9 _ hW.lt hnD)
                have hrl := hrL_le (lgX X (1 + t9) 9) (X 12 4) 4
                refine lv_goto (tgt := 410) hx hb dL_law_340 (by decide) ?_
                have hl := lv_sub hl [3, 4, 5, 6, 7] rfl
                exact K _ _ (Or.inr ⟨nI_le (a := 0) (Nat.zero_le _) (by show hrL (lgX X (1 + t9) 9) (X 12 4) 4 < _; omega), lgX X (1 + t9), rfl, IV_of hI (GI_le (GI_lg hI.1 (by omega)) (by omega)) rfl rfl (by show X 13 2 + (1 + t9) ≤ _; omega)⟩) _ _ _ hO hW hS hl
            · -- level
              refine lv_aload_n hx hb dL_law_287 rfl (lv_at hl 4 rfl) ?_
              refine lv_iconst (v := nI 1) hx hb dL_law_288 (by decide) ?_
              refine lv_iload hx hb dL_law_289 (lv_at hl 2 rfl) ?_
              refine lv_bipush (v := nI 6) hx hb dL_law_291 (by decide) ?_
              refine lv_ishr hx hb dL_law_293 ?_
              refine lv_topi (fun v2_293 ev2_293 => ?_)
              refine lv_bipush (v := nI 12) hx hb dL_law_294 (by decide) ?_
              refine z_rd (fun _ h => h) (va_runS (As := [.int v2_293, .int (nI 12)]) (rest := [.int (nI 1), .ref fs]) hF (c_L_part l E v2_293 12 (by omega) (by omega)) (cwS 2 hts gL_law_L_part rfl rfl rfl (by decide +kernel) ⟨Nat.le_of_ble_eq_true rfl, Nat.le_of_ble_eq_true rfl⟩) (z_preR zP_nil hG) rfl rfl hl.1 rfl (lv_room (Nat.le_of_ble_eq_true rfl)) dL_law_296 ⟨Nat.le_of_ble_eq_true rfl, Nat.le_of_ble_eq_true rfl⟩) (fun r9 hp => ?_)
              obtain ⟨f9, hf9, rfl⟩ := hp
              refine z_iadd (a := 1) (b := f9) hx hb dL_law_299 ?_
              refine lv_iload hx hb dL_law_300 (lv_at hl 2 rfl) ?_
              refine lv_bipush (v := nI 7) hx hb dL_law_302 (by decide) ?_
              refine lv_ishr hx hb dL_law_304 ?_
              refine lv_topi (fun v3_304 ev3_304 => ?_)
              refine lv_sipush (v := nI 2001) hx hb dL_law_305 (by decide) ?_
              refine z_rd (fun _ h => h) (va_runS (As := [.int v3_304, .int (nI 2001)]) (rest := [.int (nI (1 + f9)), .ref fs]) hF (c_L_part l E v3_304 2001 (by omega) (by omega)) (cwS 2 hts gL_law_L_part rfl rfl rfl (by decide +kernel) ⟨Nat.le_of_ble_eq_true rfl, Nat.le_of_ble_eq_true rfl⟩) (z_preR zP_nil hG) rfl rfl hl.1 rfl (lv_room (Nat.le_of_ble_eq_true rfl)) dL_law_308 ⟨Nat.le_of_ble_eq_true rfl, Nat.le_of_ble_eq_true rfl⟩) (fun r9 hp => ?_)
              obtain ⟨z9, hz9, rfl⟩ := hp
              have hh0 : atN (X 1) (1 + f9) ≤ 2000 := by rw [atN_pos (by omega)]; exact xb.2.2.1 _ (by omega)
              by_cases c5 : atN (X 1) (1 + f9) < z9
              · -- too high
                refine o_call (o := (X, hq, 0, c0)) (As := [.int (nI (1 + f9)), .int (nI z9)]) (rest := []) hF (U_level_p l E tm tl D fs (X, hq, 0, c0) xb (1 + f9) z9 (by omega) (by show 1 + f9 ≤ X 13 0; have := hI.2.1; omega) (by omega) c5) (cwV 2 hts gL_law_X6_level rfl rfl rfl (by decide +kernel) ⟨Nat.le_of_ble_eq_true rfl, Nat.le_of_ble_eq_true rfl⟩) hG hZ hDA hO hS rfl hl.1 rfl (lv_room (Nat.le_of_ble_eq_true rfl)) dL_law_311 ⟨Nat.le_of_ble_eq_true rfl, Nat.le_of_ble_eq_true rfl⟩ (fun r9 o9 HZ locsZ hp hO hS hsz9 hfr9 => ?_)
                obtain ⟨rfl, rfl⟩ := hp
                have hW := hW.kept (hfr9 _ hW.lt hnD)
                refine lv_goto (tgt := 410) hx hb dL_law_314 (by decide) ?_
                have hl := lv_sub hl [3, 4, 5, 6, 7] rfl
                exact K _ _ (Or.inl ⟨by decide, rfl⟩) _ _ _ hO hW hS hl
              · -- lower
                refine o_call (o := (X, hq, 0, c0)) (As := [.int (nI (1 + f9)), .int (nI z9)]) (rest := []) hF (U_level_y l E tm tl D fs (X, hq, 0, c0) xb (1 + f9) z9 (by omega) (by show 1 + f9 ≤ X 13 0; have := hI.2.1; omega) (by omega) (Nat.not_lt.mp c5)) (cwV 2 hts gL_law_X6_level rfl rfl rfl (by decide +kernel) ⟨Nat.le_of_ble_eq_true rfl, Nat.le_of_ble_eq_true rfl⟩) hG hZ hDA hO hS rfl hl.1 rfl (lv_room (Nat.le_of_ble_eq_true rfl)) dL_law_311 ⟨Nat.le_of_ble_eq_true rfl, Nat.le_of_ble_eq_true rfl⟩ (fun r9 o9 HZ locsZ hp hO hS hsz9 hfr9 => ?_)
                obtain ⟨rfl, rfl⟩ := hp
                have hW := hW.kept (hfr9 _ hW.lt hnD)
                refine lv_goto (tgt := 410) hx hb dL_law_314 (by decide) ?_
                have hl := lv_sub hl [3, 4, 5, 6, 7] rfl
                exact K _ _ (Or.inr ⟨nI_le (a := 0) (Nat.zero_le _) (by show atN (X 1) (1 + f9) - z9 < _; omega), lvX X (1 + f9) z9, rfl, IV_of hI (GI_le (GI_lv hI.1 (by omega) (by have := hI.2.1; omega) (by omega)) (by omega)) rfl rfl (by have := hI.2.2.2; show X 13 2 ≤ _; omega)⟩) _ _ _ hO hW hS hl
          · -- touch
            refine lv_aload_n hx hb dL_law_260 rfl (lv_at hl 4 rfl) ?_
            refine lv_iload hx hb dL_law_261 (lv_at hl 1 rfl) ?_
            refine lv_iload hx hb dL_law_263 (lv_at hl 2 rfl) ?_
            refine lv_bipush (v := nI 6) hx hb dL_law_265 (by decide) ?_
            refine lv_ishr hx hb dL_law_267 ?_
            refine lv_topi (fun v2_267 ev2_267 => ?_)
            refine lv_sipush (v := nI 2520) hx hb dL_law_268 (by decide) ?_
            refine z_rd (fun _ h => h) (va_runS (As := [.int v2_267, .int (nI 2520)]) (rest := [.int (nI st9), .ref fs]) hF (c_L_part l E v2_267 2520 (by omega) (by omega)) (cwS 2 hts gL_law_L_part rfl rfl rfl (by decide +kernel) ⟨Nat.le_of_ble_eq_true rfl, Nat.le_of_ble_eq_true rfl⟩) (z_preR zP_nil hG) rfl rfl hl.1 rfl (lv_room (Nat.le_of_ble_eq_true rfl)) dL_law_271 ⟨Nat.le_of_ble_eq_true rfl, Nat.le_of_ble_eq_true rfl⟩) (fun r9 hp => ?_)
            obtain ⟨y9, hy9, rfl⟩ := hp
            have hfb := xb.2.2.2.2.2.2.1 st9 hst9
            refine o_call (o := (X, hq, 0, c0)) (As := [.int (nI st9), .int (nI y9)]) (rest := []) hF (U_touch_y l E tm tl D fs (X, hq, 0, c0) st9 y9 hst9 (by omega)) (cwV 2 hts gL_law_X6_touch rfl rfl rfl (by decide +kernel) ⟨Nat.le_of_ble_eq_true rfl, Nat.le_of_ble_eq_true rfl⟩) hG hZ hDA hO hS rfl hl.1 rfl (lv_room (Nat.le_of_ble_eq_true rfl)) dL_law_274 ⟨Nat.le_of_ble_eq_true rfl, Nat.le_of_ble_eq_true rfl⟩ (fun r9 o9 HZ locsZ hp hO hS hsz9 hfr9 => ?_)
            obtain ⟨rfl, rfl⟩ := hp
            have hW := hW.kept (hfr9 _ hW.lt hnD)
            refine lv_goto (tgt := 410) hx hb dL_law_277 (by decide) ?_
            have hl := lv_sub hl [3, 4, 5, 6, 7] rfl
            exact K _ _ (Or.inr ⟨nI_le (a := 0) (Nat.zero_le _) (by show X 5 st9 < _; omega), toX X st9 y9, rfl, IV_of hI (GI_le (GI_to hI.1 hst9 (by omega)) (by omega)) rfl rfl (by have := hI.2.2.2; show X 13 2 ≤ _; omega)⟩) _ _ _ hO hW hS hl
        · -- press
          refine lv_aload_n hx hb dL_law_235 rfl (lv_at hl 4 rfl) ?_
          refine lv_iload hx hb dL_law_236 (lv_at hl 1 rfl) ?_
          refine lv_iload hx hb dL_law_238 (lv_at hl 2 rfl) ?_
          refine lv_bipush (v := nI 6) hx hb dL_law_240 (by decide) ?_
          refine lv_ishr hx hb dL_law_242 ?_
          refine lv_topi (fun v2_242 ev2_242 => ?_)
          refine lv_bipush (v := nI 13) hx hb dL_law_243 (by decide) ?_
          refine z_rd (fun _ h => h) (va_runS (As := [.int v2_242, .int (nI 13)]) (rest := [.int (nI st9), .ref fs]) hF (c_L_part l E v2_242 13 (by omega) (by omega)) (cwS 2 hts gL_law_L_part rfl rfl rfl (by decide +kernel) ⟨Nat.le_of_ble_eq_true rfl, Nat.le_of_ble_eq_true rfl⟩) (z_preR zP_nil hG) rfl rfl hl.1 rfl (lv_room (Nat.le_of_ble_eq_true rfl)) dL_law_245 ⟨Nat.le_of_ble_eq_true rfl, Nat.le_of_ble_eq_true rfl⟩) (fun r9 hp => ?_)
          obtain ⟨f9, hf9, rfl⟩ := hp
          refine o_call (o := (X, hq, 0, c0)) (As := [.int (nI st9), .int (nI f9)]) (rest := []) hF (U_press_y l E tm tl D fs (X, hq, 0, c0) xb st9 f9 hst9 (by show f9 ≤ X 13 0; have := hI.2.1; omega)) (cwV 2 hts gL_law_X6_press rfl rfl rfl (by decide +kernel) ⟨Nat.le_of_ble_eq_true rfl, Nat.le_of_ble_eq_true rfl⟩) hG hZ hDA hO hS rfl hl.1 rfl (lv_room (Nat.le_of_ble_eq_true rfl)) dL_law_248 ⟨Nat.le_of_ble_eq_true rfl, Nat.le_of_ble_eq_true rfl⟩ (fun r9 o9 HZ locsZ hp hO hS hsz9 hfr9 => ?_)
          obtain ⟨rfl, rfl⟩ := hp
          have hW := hW.kept (hfr9 _ hW.lt hnD)
          refine lv_goto (tgt := 410) hx hb dL_law_251 (by decide) ?_
          have hl := lv_sub hl [3, 4, 5, 6, 7] rfl
          exact K _ _ (Or.inr ⟨nI_le (a := 0) (Nat.zero_le _) (by omega), prX X st9 f9, rfl, IV_of hI (GI_le (GI_pr hI.1 hst9 (by have := hI.2.1; omega)) (by omega)) rfl rfl (by have := hI.2.2.2; show X 13 2 ≤ _; omega)⟩) _ _ _ hO hW hS hl
      · -- pluck
        refine lv_aload_n hx hb dL_law_195 rfl (lv_at hl 4 rfl) ?_
        refine lv_iload hx hb dL_law_196 (lv_at hl 1 rfl) ?_
        refine lv_iconst (v := nI 1) hx hb dL_law_198 (by decide) ?_
        refine lv_iload hx hb dL_law_199 (lv_at hl 2 rfl) ?_
        refine lv_bipush (v := nI 6) hx hb dL_law_201 (by decide) ?_
        refine lv_ishr hx hb dL_law_203 ?_
        refine lv_topi (fun v2_203 ev2_203 => ?_)
        refine lv_sipush (v := nI 2519) hx hb dL_law_204 (by decide) ?_
        refine z_rd (fun _ h => h) (va_runS (As := [.int v2_203, .int (nI 2519)]) (rest := [.int (nI 1), .int (nI st9), .ref fs]) hF (c_L_part l E v2_203 2519 (by omega) (by omega)) (cwS 2 hts gL_law_L_part rfl rfl rfl (by decide +kernel) ⟨Nat.le_of_ble_eq_true rfl, Nat.le_of_ble_eq_true rfl⟩) (z_preR zP_nil hG) rfl rfl hl.1 rfl (lv_room (Nat.le_of_ble_eq_true rfl)) dL_law_207 ⟨Nat.le_of_ble_eq_true rfl, Nat.le_of_ble_eq_true rfl⟩) (fun r9 hp => ?_)
        obtain ⟨y9, hy9, rfl⟩ := hp
        refine z_iadd (a := 1) (b := y9) hx hb dL_law_210 ?_
        refine lv_iconst (v := nI 1) hx hb dL_law_211 (by decide) ?_
        refine lv_iload hx hb dL_law_212 (lv_at hl 2 rfl) ?_
        refine lv_iconst (v := nI 5) hx hb dL_law_214 (by decide) ?_
        refine lv_ishr hx hb dL_law_215 ?_
        refine lv_topi (fun v3_215 ev3_215 => ?_)
        refine lv_sipush (v := nI 1000) hx hb dL_law_216 (by decide) ?_
        refine z_rd (fun _ h => h) (va_runS (As := [.int v3_215, .int (nI 1000)]) (rest := [.int (nI 1), .int (nI (1 + y9)), .int (nI st9), .ref fs]) hF (c_L_part l E v3_215 1000 (by omega) (by omega)) (cwS 2 hts gL_law_L_part rfl rfl rfl (by decide +kernel) ⟨Nat.le_of_ble_eq_true rfl, Nat.le_of_ble_eq_true rfl⟩) (z_preR zP_nil hG) rfl rfl hl.1 rfl (lv_room (Nat.le_of_ble_eq_true rfl)) dL_law_219 ⟨Nat.le_of_ble_eq_true rfl, Nat.le_of_ble_eq_true rfl⟩) (fun r9 hp => ?_)
        obtain ⟨q9, hq9, rfl⟩ := hp
        refine z_iadd (a := 1) (b := q9) hx hb dL_law_222 ?_
        by_cases c5 : 1 + y9 ≤ X 8 st9
        · -- behind
          refine o_call (o := (X, hq, 0, c0)) (As := [.int (nI st9), .int (nI (1 + y9)), .int (nI (1 + q9))]) (rest := []) hF (U_pluck_p l E tm tl D fs (X, hq, 0, c0) xb st9 (1 + y9) (1 + q9) hst9 (by omega) (by omega) (by omega) (by omega) c5) (cwV 3 hts gL_law_X6_pluck rfl rfl rfl (by decide +kernel) ⟨Nat.le_of_ble_eq_true rfl, Nat.le_of_ble_eq_true rfl⟩) hG hZ hDA hO hS rfl hl.1 rfl (lv_room (Nat.le_of_ble_eq_true rfl)) dL_law_223 ⟨Nat.le_of_ble_eq_true rfl, Nat.le_of_ble_eq_true rfl⟩ (fun r9 o9 HZ locsZ hp hO hS hsz9 hfr9 => ?_)
          obtain ⟨rfl, rfl⟩ := hp
          have hW := hW.kept (hfr9 _ hW.lt hnD)
          refine lv_goto (tgt := 410) hx hb dL_law_226 (by decide) ?_
          have hl := lv_sub hl [3, 4, 5, 6, 7] rfl
          exact K _ _ (Or.inl ⟨by decide, rfl⟩) _ _ _ hO hW hS hl
        · -- plucked
          refine o_call (o := (X, hq, 0, c0)) (As := [.int (nI st9), .int (nI (1 + y9)), .int (nI (1 + q9))]) (rest := []) hF (U_pluck_y l E tm tl D fs (X, hq, 0, c0) xb st9 (1 + y9) (1 + q9) hst9 (by omega) (by omega) (by omega) (by omega) (Nat.not_le.mp c5)) (cwV 3 hts gL_law_X6_pluck rfl rfl rfl (by decide +kernel) ⟨Nat.le_of_ble_eq_true rfl, Nat.le_of_ble_eq_true rfl⟩) hG hZ hDA hO hS rfl hl.1 rfl (lv_room (Nat.le_of_ble_eq_true rfl)) dL_law_223 ⟨Nat.le_of_ble_eq_true rfl, Nat.le_of_ble_eq_true rfl⟩ (fun r9 o9 HZ locsZ hp hO hS hsz9 hfr9 => ?_)
          obtain ⟨rfl, rfl⟩ := hp
          have hW := hW.kept (hfr9 _ hW.lt hnD)
          have hpc := popc_le (mhL (pkX X st9 (1 + y9) (1 + q9) 9) (X 12 4) st9 12)
          refine lv_goto (tgt := 410) hx hb dL_law_226 (by decide) ?_
          have hl := lv_sub hl [3, 4, 5, 6, 7] rfl
          exact K _ _ (Or.inr ⟨nI_le (a := 0) (Nat.zero_le _) (by show popc (mhL (pkX X st9 (1 + y9) (1 + q9) 9) (X 12 4) st9 12) < _; omega), pkX X st9 (1 + y9) (1 + q9), rfl, IV_of hI (GI_le (GI_pk hI.1 hst9 (by omega)) (by omega)) rfl rfl (by have := hI.2.2.2; show X 13 2 ≤ _; omega)⟩) _ _ _ hO hW hS hl
