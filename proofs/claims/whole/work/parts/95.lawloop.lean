def R_law : String := "FrettedStringsLaw"
def lw_P (b : Addr) (xs : List Int32) (args : Array Value) (s : State) : Prop := args = #[.ref b] ∧ s.IntsAt b xs ∧ xs.length ≤ 2560 ∧ (Jvm.Cond.and given_1 narrow_1).before args s = true
def lw_Q (_ : Array Value) (s : State) (o : Outcome) (t : State) : Prop := o = .returned (some (.int 1)) ∧ Framed s o t [] 95 2706
def lw_Z (below : List Frame) (a : Array Value) (s : State) : State → Prop := fun t => ∃ o, t.status = .running ∧ Ended t below o ∧ lw_Q a s o t
/-- the law's own end, with 1 on the stack, nothing written that was there before, its room as the claim has it -/
theorem lw_ret {p : Program} {l : Launch} {e : Env} {s : State} {m : MethodId} {below : List Frame} {meth : Method} {c : Code} {b : Nat} (hx : p.tables.exec = Jvm.exec) (hb : c.code = code) (hr : meth.sig.returnType = ret) (hlocks : meth.locks = false) {pc : Nat} {H : Heap} {ls : Array Slot} (hdg : decode code pc = .ok (.ireturn, 1)) : W p l e room_1 s m #[Value.ref b] below meth c H [] 95 2706 (lw_Z below #[Value.ref b] s) (F0 m pc ls [.int 1]) := by
  intro T hT X
  obtain ⟨fs, hret, hrun, hended, hW, hframe⟩ := X.leave (v := some (.int 1)) (hlocks := hlocks) (fun h => by rw [hr] at h; cases h)
  have hmeth' : T.vm.method? m = some meth := X.method'
  refine ⟨T.setFrames fs, ?_, .returned (some (.int 1)), hrun, hended, rfl, ⟨_, rfl⟩, hW, hframe⟩
  jvm_step X.here [X.here.top, hx, hb, hdg, hmeth', hr, ret, narrow_b1]
  (try refine ⟨rfl, ?_⟩); (try refine ⟨rfl, ?_⟩)
  first | (intro acts; rw [hret _ acts rfl rfl rfl]) | rw [hret _ _ rfl rfl rfl]
  exact Steps.refl _
/-- what holds at the law's entry: the machine, the code, the tables' words (any of lw_tbl by 'hts w (by decide +kernel)'), the script of L ints xs at the cell b, what the Statement gives of the start (any of its parts by flat_of_before) -/
def lw_At (p : Program) (s : State) (m : MethodId) (meth : Method) (c : Code) (b L : Nat) (xs : Nat → Int32) : Prop :=
  p.tables.exec = Jvm.exec ∧ c.code = code ∧ meth.sig.returnType = ret ∧ c.maxLocals = 4 ∧ s.vm.findClass R_law = some m.cls ∧ (∀ w ∈ lw_tbl, w.before #[Value.ref b] s = true) ∧ va_X b L xs s s.heap ∧ b < s.heap.size ∧ meth.locks = false ∧ (Jvm.Cond.and given_1 narrow_1).before #[Value.ref b] s = true
theorem LInv_up {s : State} {A : Nat → Prop} {E : zE} {fs sc hi ch rw x ms mp mt md : Nat} {ad adA adB adC adD : Nat → Nat} {n0 : Nat} {H : Heap} {locs : List Loc} (h : LInv s A E fs sc hi ch rw x ms mp mt md ad adA adB adC adD n0 H locs) : LInv s A E fs sc hi ch rw x ms mp mt md ad adA adB adC adD (n0 + 1) H locs := by
  obtain ⟨hz, old, len, pl, fp, sp, fm, X, XA, XB, XC, XD, st, fr, fo, ti, to, q1, q2, q3, q4, q5, Ch, M, Pa, Sd, hP, hD, hS, lr⟩ := h
  exact ⟨hz, old, len, pl, fp, sp, fm, X, XA, XB, XC, XD, st, fr, fo, ti, to, q1, q2, q3, q4, q5, Ch, M, Pa, Sd, hP, hD, hS, LR_up lr⟩
set_option maxHeartbeats 4000000 in
set_option maxRecDepth 100000 in
/-- the law's loop -/
theorem law_loop {p : Program} {e : Env} {s : State} {m : MethodId} {below : List Frame} {meth : Method} {c : Code} {A : Nat → Prop} {E : zE} {b L tm tl : Nat} {xs : Nat → Int32} {fs sc hi ch rw x ms mp mt md : Nat} {ad adA adB adC adD : Nat → Nat} (l : Launch) (F : LF p s m c b L xs E A tm tl) (hL : L ≤ 2560) (hr : meth.sig.returnType = ret) (hlocks : meth.locks = false) (hA : ∀ q, A q → s.heap.size ≤ q) :
    ∀ (fuel n0 : Nat), L - 5 * n0 < fuel → 5 * n0 ≤ L → ∀ (H : Heap) (locs : List Loc) (ls : Array Slot), LInv s A E fs sc hi ch rw x ms mp mt md ad adA adB adC adD n0 H locs → lv_has ls 4 [(0, .ref b), (1, .ref fs), (2, .ref x), (3, .int (nI (5 * n0)))] → W p l e room_1 s m #[Value.ref b] below meth c H locs 95 2706 (lw_Z below #[Value.ref b] s) (F0 m 18 ls []) := by
  intro fuel
  induction fuel with
  | zero => intro n0 hm; exact absurd hm (Nat.not_lt_zero _)
  | succ fuel ih =>
    intro n0 hm h0 H locs ls inv hl
    obtain ⟨hF, hG, hX, hbl, hbA, hZ⟩ := id F
    obtain ⟨hx, hb, hml, hown, hts⟩ := id hF
    obtain ⟨hz, old, len, pl, fp, sp, fm, X, XA, XB, XC, XD, st, fr, fo, ti, to, q1, q2, q3, q4, q5, Ch, M, Pa, Sd, hP, hD, hS, lr⟩ := id inv
    refine lv_iload_n hx hb dL_law_18 rfl (lv_at hl 3 rfl) ?_
    refine lv_aload_n hx hb dL_law_19 rfl (lv_at hl 0 rfl) ?_
    refine va_slen hx hb hX hbl hbA hS dL_law_20 ?_
    refine lv_iconst (v := nI 5) hx hb dL_law_21 (by decide) ?_
    refine lv_isub hx hb dL_law_22 ?_
    refine lv_icmp_gt (tgt := 929) hx hb dL_law_23 (by decide) (fun c1 => ?_) (fun c1 => ?_)
    · refine lv_iconst (v := 1) hx hb dL_law_929 (by decide) ?_
      refine va_forget (fun q hq => hA _ (hS.2.2 q hq)) ?_
      exact lw_ret hx hb hr hlocks dL_law_930
    · have c2 : ¬ (nI L - nI 5 < nI (5 * n0)) := c1
      rw [Int32.lt_iff_toInt_lt, na_lt (by omega) (by omega), nI_toInt (by omega)] at c2
      have hle : 5 * n0 + 5 ≤ L := by omega
      have tail : ∀ (H : Heap) (locs : List Loc) (ls : Array Slot), LInv s A E fs sc hi ch rw x ms mp mt md ad adA adB adC adD (n0 + 1) H locs → lv_has ls 4 [(0, .ref b), (1, .ref fs), (2, .ref x), (3, .int (nI (5 * n0)))] → W p l e room_1 s m #[Value.ref b] below meth c H locs 95 2706 (lw_Z below #[Value.ref b] s) (F0 m 923 ls []) := by
        intro H locs ls inv hl
        refine z_iinc (k := 3) (d := 5) (lv' := [(3, .int (nI (5 * n0 + 5))), (0, .ref b), (1, .ref fs), (2, .ref x)]) hx hb dL_law_923 (by decide) hl rfl (by decide) rfl (fun ls hl => ?_)
        refine lv_goto (tgt := 18) hx hb dL_law_926 (by decide) ?_
        exact ih (n0 + 1) (by omega) (by omega) _ _ _ inv (by rw [show 5 * (n0 + 1) = 5 * n0 + 5 by omega]; exact lv_sub hl [1, 2, 3, 0] rfl)
      refine lv_aload_n hx hb dL_law_26 rfl (lv_at hl 0 rfl) ?_
      refine lv_iload_n hx hb dL_law_27 rfl (lv_at hl 3 rfl) ?_
      refine z_sld (j := 5 * n0) hx hb hX hbl hbA hS (by omega) hL dL_law_28 ?_
      refine lv_bipush (v := nI 31) hx hb dL_law_29 (by decide) ?_
      refine lv_iand hx hb dL_law_31 ?_
      generalize xs (5 * n0) &&& nI 31 = t
      rcases z_tab t 24 (by decide) with hout | ⟨kZ, hkZ, rfl⟩
      · refine lv_tableOut (tgt := 923) hx hb dL_law_32 hout (by decide) ?_
        exact tail _ _ _ (LInv_up inv) hl
      obtain hk | hk | hk | hk | hk | hk | hk | hk | hk | hk | hk | hk | hk | hk | hk | hk | hk | hk | hk | hk | hk | hk | hk | hk | hk : kZ = 0 ∨ kZ = 1 ∨ kZ = 2 ∨ kZ = 3 ∨ kZ = 4 ∨ kZ = 5 ∨ kZ = 6 ∨ kZ = 7 ∨ kZ = 8 ∨ kZ = 9 ∨ kZ = 10 ∨ kZ = 11 ∨ kZ = 12 ∨ kZ = 13 ∨ kZ = 14 ∨ kZ = 15 ∨ kZ = 16 ∨ kZ = 17 ∨ kZ = 18 ∨ kZ = 19 ∨ kZ = 20 ∨ kZ = 21 ∨ kZ = 22 ∨ kZ = 23 ∨ kZ = 24 := by omega
      · subst hk
        refine lv_tableIn (tgt := 148) (off := 116) hx hb dL_law_32 (by decide) (by decide) (by decide) (by decide) ?_
        exact law_fret l F hL hle inv hl tail
      · subst hk
        refine lv_tableIn (tgt := 181) (off := 149) hx hb dL_law_32 (by decide) (by decide) (by decide) (by decide) ?_
        exact law_level l F hL hle inv hl tail
      · subst hk
        refine lv_tableIn (tgt := 214) (off := 182) hx hb dL_law_32 (by decide) (by decide) (by decide) (by decide) ?_
        exact law_fretInfo l F hL hle inv hl tail
      · subst hk
        refine lv_tableIn (tgt := 247) (off := 215) hx hb dL_law_32 (by decide) (by decide) (by decide) (by decide) ?_
        exact law_mostFor l F hL hle inv hl tail
      · subst hk
        refine lv_tableIn (tgt := 270) (off := 238) hx hb dL_law_32 (by decide) (by decide) (by decide) (by decide) ?_
        exact law_tune l F hL hle inv hl tail
      · subst hk
        refine lv_tableIn (tgt := 303) (off := 271) hx hb dL_law_32 (by decide) (by decide) (by decide) (by decide) ?_
        exact law_press l F hL hle inv hl tail
      · subst hk
        refine lv_tableIn (tgt := 336) (off := 304) hx hb dL_law_32 (by decide) (by decide) (by decide) (by decide) ?_
        exact law_touch l F hL hle inv hl tail
      · subst hk
        refine lv_tableIn (tgt := 369) (off := 337) hx hb dL_law_32 (by decide) (by decide) (by decide) (by decide) ?_
        exact law_pluck l F hL hle inv hl tail
      · subst hk
        refine lv_tableIn (tgt := 412) (off := 380) hx hb dL_law_32 (by decide) (by decide) (by decide) (by decide) ?_
        exact law_damp l F hL hle inv hl tail
      · subst hk
        refine lv_tableIn (tgt := 435) (off := 403) hx hb dL_law_32 (by decide) (by decide) (by decide) (by decide) ?_
        exact law_stringInfo l F hL hle inv hl tail
      · subst hk
        refine lv_tableIn (tgt := 468) (off := 436) hx hb dL_law_32 (by decide) (by decide) (by decide) (by decide) ?_
        exact law_modeInfo l F hL hle inv hl tail
      · subst hk
        refine lv_tableIn (tgt := 511) (off := 479) hx hb dL_law_32 (by decide) (by decide) (by decide) (by decide) ?_
        exact law_node l F hL hle inv hl tail
      · subst hk
        refine lv_tableIn (tgt := 554) (off := 522) hx hb dL_law_32 (by decide) (by decide) (by decide) (by decide) ?_
        exact law_nodeAgain l F hL hle inv hl tail
      · subst hk
        refine lv_tableIn (tgt := 597) (off := 565) hx hb dL_law_32 (by decide) (by decide) (by decide) (by decide) ?_
        exact law_set l F hL hle inv hl tail
      · subst hk
        refine lv_tableIn (tgt := 630) (off := 598) hx hb dL_law_32 (by decide) (by decide) (by decide) (by decide) ?_
        exact law_run l F hL hle inv hl tail
      · subst hk
        refine lv_tableIn (tgt := 653) (off := 621) hx hb dL_law_32 (by decide) (by decide) (by decide) (by decide) ?_
        exact law_ticksTo l F hL hle inv hl tail
      · subst hk
        refine lv_tableIn (tgt := 686) (off := 654) hx hb dL_law_32 (by decide) (by decide) (by decide) (by decide) ?_
        exact law_beat l F hL hle inv hl tail
      · subst hk
        refine lv_tableIn (tgt := 739) (off := 707) hx hb dL_law_32 (by decide) (by decide) (by decide) (by decide) ?_
        exact law_slowest l F hL hle inv hl tail
      · subst hk
        refine lv_tableIn (tgt := 782) (off := 750) hx hb dL_law_32 (by decide) (by decide) (by decide) (by decide) ?_
        exact law_played l F hL hle inv hl tail
      · subst hk
        refine lv_tableIn (tgt := 815) (off := 783) hx hb dL_law_32 (by decide) (by decide) (by decide) (by decide) ?_
        exact law_count l F hL hle inv hl tail
      · subst hk
        refine lv_tableIn (tgt := 838) (off := 806) hx hb dL_law_32 (by decide) (by decide) (by decide) (by decide) ?_
        exact law_undo l F hL hle inv hl tail
      · subst hk
        refine lv_tableIn (tgt := 851) (off := 819) hx hb dL_law_32 (by decide) (by decide) (by decide) (by decide) ?_
        exact law_type l F hL hle inv hl tail
      · subst hk
        refine lv_tableIn (tgt := 874) (off := 842) hx hb dL_law_32 (by decide) (by decide) (by decide) (by decide) ?_
        exact law_clearText l F hL hle inv hl tail
      · subst hk
        refine lv_tableIn (tgt := 887) (off := 855) hx hb dL_law_32 (by decide) (by decide) (by decide) (by decide) ?_
        exact law_fault l F hL hle inv hl tail
      · subst hk
        refine lv_tableIn (tgt := 910) (off := 878) hx hb dL_law_32 (by decide) (by decide) (by decide) (by decide) ?_
        exact law_play l F hL hle inv hl tail
