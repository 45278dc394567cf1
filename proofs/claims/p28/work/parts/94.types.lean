/-! ===== texts that the law types ===== -/
def byW (w : Int64) (k : Nat) : Int32 := ((w >>> ((nI (8 * k)).toInt64 &&& 63)) &&& 255).toInt32
def chF (c : Nat) (t : Nat × (Nat → Nat)) : Nat × (Nat → Nat) := if c = 0 then t else if t.1 < 80 then (t.1 + 1, va_up t.2 t.1 c) else t
def tyF (cs : Nat → Nat) : Nat → Nat × (Nat → Nat) → Nat × (Nat → Nat)
  | 0, t => t
  | k + 1, t => tyF cs k (chF (cs k) t)
def okW (w : Int64) (cs : Nat → Nat) : Prop := ∀ k, k < 8 → byW w k = nI (cs k) ∧ (cs k = 0 ∨ (32 ≤ cs k ∧ cs k ≤ 126))

set_option maxHeartbeats 4000000 in
set_option maxRecDepth 100000 in
theorem c_L_types (l : Launch) (E : zE) (tm tl : Nat) (D : Nat → Prop) (fs : Nat) (o : oS) (w : Int64) (cs : Nat → Nat) (hcs : okW w cs) : oMv l yL_types wsL_types ({ frames := 2, cells := 0, slots := 0, locals := 43 }) E tm tl D fs [.ref fs, .long w] o (fun o9 => o9 = (o.1, o.2.1, (tyF cs 8 (o.2.2.1, o.2.2.2)).1, (tyF cs 8 (o.2.2.1, o.2.2.2)).2)) := by
  refine oMv.start (own := RL) rfl (by decide +kernel) rfl (Nat.le_of_ble_eq_true rfl) ?_
  intro pZ eZ sZ mZ argsZ belowZ methZ cZ QZ hF hret hG hZ HZ locsZ hO hS ls hl
  obtain ⟨hx, hb, hml, hown, hts⟩ := id hF
  obtain ⟨X, h9, len0, Ch0⟩ := o
  have hO : HO E D fs (X, h9, len0, Ch0) HZ := hO
  have B : ∀ (k : Nat), k < 8 → ∀ (len : Nat) (Ch : Nat → Nat) (HZ : Heap) (locsZ : List Loc) (ls : Array Slot), HO E D fs (X, h9, len, Ch) HZ → va_S D sZ.heap HZ locsZ → lv_has ls 5 [(0, .ref fs), (1, .long w), (3, .int (nI k))] → (∀ (HZ : Heap) (locsZ : List Loc) (ls : Array Slot), HO E D fs (X, h9, (chF (cs k) (len, Ch)).1, (chF (cs k) (len, Ch)).2) HZ → va_S D sZ.heap HZ locsZ → lv_has ls 5 [(0, .ref fs), (1, .long w), (3, .int (nI k))] → W pZ l eZ ({ frames := 2, cells := 0, slots := 0, locals := 43 }) sZ mZ argsZ belowZ methZ cZ HZ locsZ 0 0 QZ (F0 mZ 32 ls [])) → W pZ l eZ ({ frames := 2, cells := 0, slots := 0, locals := 43 }) sZ mZ argsZ belowZ methZ cZ HZ locsZ 0 0 QZ (F0 mZ 7 ls []) := by
    intro k hk len Ch HZ locsZ ls hO hS hl K
    refine lv_lload_n hx hb dL_types_7 rfl (lv_at hl 1 rfl) ?_
    refine lv_bipush (v := nI 8) hx hb dL_types_8 (by decide) ?_
    refine lv_iload_n hx hb dL_types_10 rfl (lv_at hl 2 rfl) ?_
    refine z_imul (a := 8) (b := k) hx hb dL_types_11 ?_
    refine lv_lshr hx hb dL_types_12 rfl ?_
    refine lv_ldc2 (v := 255) hx hb hown (hts (.constantLong RL 102 255) (by decide +kernel)) dL_types_13 ?_
    refine lv_land hx hb dL_types_16 ?_
    refine lv_l2i hx hb dL_types_17 rfl ?_
    refine lv_topi (fun x9 e9 => ?_)
    obtain rfl : x9 = nI (cs k) := e9.trans (hcs k hk).1
    have hc := (hcs k hk).2
    refine lv_istore (lv' := [(4, .int (nI (cs k))), (0, .ref fs), (1, .long w), (3, .int (nI k))]) hx hb dL_types_18 hl (by decide) rfl (fun ls hl => ?_)
    refine lv_iload hx hb dL_types_20 (lv_at hl 0 rfl) ?_
    refine z_if_eq (tgt := 32) hx hb dL_types_22 (by decide) (by omega) (fun c1 => ?_) (fun c1 => ?_)
    · -- no sign
      have e8 : chF (cs k) (len, Ch) = (len, Ch) := by unfold chF; rw [if_pos c1]
      rw [e8] at K
      have hl := lv_sub hl [1, 2, 3] rfl
      exact K _ _ _ hO hS hl
    · -- a sign
      refine lv_aload_n hx hb dL_types_25 rfl (lv_at hl 1 rfl) ?_
      refine lv_iload hx hb dL_types_26 (lv_at hl 0 rfl) ?_
      have hl8 : len ≤ 80 := by obtain ⟨_, _, _, _, _, _, _, _, _, _, _, _, _, _, _, _, _, _, _, _, _, hq, -⟩ := hO; exact hq.2.2.2.1
      by_cases c2 : len < 80
      · -- room
        refine o_call (o := (X, h9, len, Ch)) (As := [.int (nI (cs k))]) (rest := []) hF (U_type_y l E tm tl D fs (X, h9, len, Ch) (cs k) (by omega) (by omega) c2) (cwV 1 hts gL_types_X6_type rfl rfl rfl (by decide +kernel) ⟨Nat.le_of_ble_eq_true rfl, Nat.le_of_ble_eq_true rfl⟩) hG hZ (fun _ h9 => h9) hO hS rfl hl.1 rfl (lv_room (Nat.le_of_ble_eq_true rfl)) dL_types_28 ⟨Nat.le_of_ble_eq_true rfl, Nat.le_of_ble_eq_true rfl⟩ (fun r9 o9 HZ locsZ hp hO hS hsz9 hfr9 => ?_)
        obtain ⟨rfl, rfl⟩ := hp
        refine lv_pop hx hb dL_types_31 rfl ?_
        have e8 : chF (cs k) (len, Ch) = (len + 1, va_up Ch len (cs k)) := by unfold chF; rw [if_neg (by omega), if_pos c2]
        rw [e8] at K
        have hl := lv_sub hl [1, 2, 3] rfl
        exact K _ _ _ hO hS hl
      · -- full
        refine o_call (o := (X, h9, len, Ch)) (As := [.int (nI (cs k))]) (rest := []) hF (U_type_l l E tm tl D fs (X, h9, len, Ch) (cs k) (by omega) (by omega) (by show len = 80; omega)) (cwV 1 hts gL_types_X6_type rfl rfl rfl (by decide +kernel) ⟨Nat.le_of_ble_eq_true rfl, Nat.le_of_ble_eq_true rfl⟩) hG hZ (fun _ h9 => h9) hO hS rfl hl.1 rfl (lv_room (Nat.le_of_ble_eq_true rfl)) dL_types_28 ⟨Nat.le_of_ble_eq_true rfl, Nat.le_of_ble_eq_true rfl⟩ (fun r9 o9 HZ locsZ hp hO hS hsz9 hfr9 => ?_)
        obtain ⟨rfl, rfl⟩ := hp
        refine lv_pop hx hb dL_types_31 rfl ?_
        have e8 : chF (cs k) (len, Ch) = (len, Ch) := by unfold chF; rw [if_neg (by omega), if_neg c2]
        rw [e8] at K
        have hl := lv_sub hl [1, 2, 3] rfl
        exact K _ _ _ hO hS hl
  have Lp : ∀ (k : Nat), k < 8 → ∀ (len : Nat) (Ch : Nat → Nat), tyF cs (k + 1) (len, Ch) = (tyF cs 8 (len0, Ch0)) → ∀ (HZ : Heap) (locsZ : List Loc) (ls : Array Slot), HO E D fs (X, h9, len, Ch) HZ → va_S D sZ.heap HZ locsZ → lv_has ls 5 [(0, .ref fs), (1, .long w), (3, .int (nI k))] → W pZ l eZ ({ frames := 2, cells := 0, slots := 0, locals := 43 }) sZ mZ argsZ belowZ methZ cZ HZ locsZ 0 0 QZ (F0 mZ 3 ls []) := by
    intro k
    induction k with
    | zero =>
      intro hk len Ch hT HZ locsZ ls hO hS hl
      refine lv_iload_n hx hb dL_types_3 rfl (lv_at hl 2 rfl) ?_
      refine z_if_lt (tgt := 38) hx hb dL_types_4 (by decide) (by omega) ?_
      refine B (0) hk len Ch _ _ _ hO hS hl (fun HZ locsZ ls hO hS hl => ?_)
      refine lv_iinc (k := 2) (v := -1) (lv' := [(3, .int (-1)), (0, .ref fs), (1, .long w)]) hx hb dL_types_32 hl rfl (by decide) (by decide) rfl (fun ls hl => ?_)
      refine lv_goto (tgt := 3) hx hb dL_types_35 (by decide) ?_
      refine lv_iload_n hx hb dL_types_3 rfl (lv_at hl 0 rfl) ?_
      refine lv_if_lt (tgt := 38) hx hb dL_types_4 (by decide) (fun _ => ?_) (fun c9 => absurd (by decide) c9)
      exact hret _ _ _ _ _ hO hS dL_types_38 (show (X, h9, (chF (cs 0) (len, Ch)).1, (chF (cs 0) (len, Ch)).2) = (X, h9, (tyF cs 8 (len0, Ch0)).1, (tyF cs 8 (len0, Ch0)).2) by rw [← hT]; rfl)
    | succ k ih =>
      intro hk len Ch hT HZ locsZ ls hO hS hl
      refine lv_iload_n hx hb dL_types_3 rfl (lv_at hl 2 rfl) ?_
      refine z_if_lt (tgt := 38) hx hb dL_types_4 (by decide) (by omega) ?_
      refine B (k + 1) hk len Ch _ _ _ hO hS hl (fun HZ locsZ ls hO hS hl => ?_)
      refine z_idec (k := 2) (a := k + 1) (lv' := [(3, .int (nI k)), (0, .ref fs), (1, .long w)]) hx hb dL_types_32 (by decide) hl rfl (by omega) (by decide) rfl (fun ls hl => ?_)
      refine lv_goto (tgt := 3) hx hb dL_types_35 (by decide) ?_
      have hl := lv_sub hl [1, 2, 0] rfl
      exact ih (by omega) _ _ hT _ _ _ hO hS hl
  have hl : lv_has ls 5 [(0, .ref fs), (1, .long w)] := hl
  refine lv_bipush (v := nI 7) hx hb dL_types_0 (by decide) ?_
  refine lv_istore_n (lv' := [(3, .int (nI 7)), (0, .ref fs), (1, .long w)]) hx hb dL_types_2 rfl hl (by decide) rfl (fun ls hl => ?_)
  have hl := lv_sub hl [1, 2, 0] rfl
  exact Lp 7 (by omega) len0 Ch0 rfl _ _ _ hO hS hl

set_option maxHeartbeats 4000000 in
set_option maxRecDepth 100000 in
theorem c_L_isFault (l : Launch) (E : zE) (tm tl : Nat) (D : Nat → Prop) (fs : Nat) (o : oS) (xb : XB o.1) (a b : Int64) (p r : Int32) (ca cb : Nat → Nat) (ha : okW a ca) (hb9 : okW b cb) (h0 : ftA o.1 (tyF cb 8 (tyF ca 8 (0, o.2.2.2))).1 (tyF cb 8 (tyF ca 8 (0, o.2.2.2))).2 0 = p) (h1 : ftA o.1 (tyF cb 8 (tyF ca 8 (0, o.2.2.2))).1 (tyF cb 8 (tyF ca 8 (0, o.2.2.2))).2 1 = r) : oM l yL_isFault wsL_isFault ({ frames := 6, cells := 0, slots := 0, locals := 136 }) E tm tl D fs [.ref fs, .long a, .long b, .int p, .int r] o (fun r9 o9 => r9 = nI 1 ∧ o9 = (o.1, o.2.1, (tyF cb 8 (tyF ca 8 (0, o.2.2.2))).1, (tyF cb 8 (tyF ca 8 (0, o.2.2.2))).2)) := by
  refine oM.start (own := RL) rfl (by decide +kernel) rfl (Nat.le_of_ble_eq_true rfl) (fun v o9 h => by obtain ⟨rfl, -⟩ := h; rfl) ?_
  intro pZ eZ sZ mZ argsZ belowZ methZ cZ QZ hF hret hG hZ HZ locsZ hO hS ls hl
  obtain ⟨hx, hb, hml, hown, hts⟩ := id hF
  obtain ⟨X, h9, len, Ch⟩ := o
  have xb : XB X := xb
  have hl : lv_has ls 7 [(0, .ref fs), (1, .long a), (3, .long b), (5, .int p), (6, .int r)] := hl
  refine lv_aload_n hx hb dL_isFault_0 rfl (lv_at hl 0 rfl) ?_
  refine o_call (o := (X, h9, len, Ch)) (As := []) (rest := []) hF (U_clearText l E tm tl D fs (X, h9, len, Ch)) (cwV 0 hts gL_isFault_X6_clearText rfl rfl rfl (by decide +kernel) ⟨Nat.le_of_ble_eq_true rfl, Nat.le_of_ble_eq_true rfl⟩) hG hZ (fun _ h9 => h9) hO hS rfl hl.1 rfl (lv_room (Nat.le_of_ble_eq_true rfl)) dL_isFault_1 ⟨Nat.le_of_ble_eq_true rfl, Nat.le_of_ble_eq_true rfl⟩ (fun r9 o9 HZ locsZ hp hO hS hsz9 hfr9 => ?_)
  obtain ⟨rfl, rfl⟩ := hp
  refine lv_pop hx hb dL_isFault_4 rfl ?_
  refine lv_aload_n hx hb dL_isFault_5 rfl (lv_at hl 0 rfl) ?_
  refine lv_lload_n hx hb dL_isFault_6 rfl (lv_at hl 1 rfl) ?_
  refine o_callU (o := (X, h9, 0, Ch)) (As := [.ref fs, .long a]) (rest := []) hF (c_L_types l E tm tl D fs (X, h9, 0, Ch) a ca ha) (cwS 2 hts gL_isFault_L_types rfl rfl rfl (by decide +kernel) ⟨Nat.le_of_ble_eq_true rfl, Nat.le_of_ble_eq_true rfl⟩) hG hZ (fun _ h9 => h9) hO hS rfl hl.1 rfl (lv_room (Nat.le_of_ble_eq_true rfl)) dL_isFault_7 ⟨Nat.le_of_ble_eq_true rfl, Nat.le_of_ble_eq_true rfl⟩ (fun o9 HZ locsZ hp hO hS hsz9 hfr9 => ?_)
  subst hp
  refine lv_aload_n hx hb dL_isFault_10 rfl (lv_at hl 0 rfl) ?_
  refine lv_lload_n hx hb dL_isFault_11 rfl (lv_at hl 2 rfl) ?_
  refine o_callU (o := (X, h9, (tyF ca 8 (0, Ch)).1, (tyF ca 8 (0, Ch)).2)) (As := [.ref fs, .long b]) (rest := []) hF (c_L_types l E tm tl D fs (X, h9, (tyF ca 8 (0, Ch)).1, (tyF ca 8 (0, Ch)).2) b cb hb9) (cwS 2 hts gL_isFault_L_types rfl rfl rfl (by decide +kernel) ⟨Nat.le_of_ble_eq_true rfl, Nat.le_of_ble_eq_true rfl⟩) hG hZ (fun _ h9 => h9) hO hS rfl hl.1 rfl (lv_room (Nat.le_of_ble_eq_true rfl)) dL_isFault_12 ⟨Nat.le_of_ble_eq_true rfl, Nat.le_of_ble_eq_true rfl⟩ (fun o9 HZ locsZ hp hO hS hsz9 hfr9 => ?_)
  subst hp
  refine lv_aload_n hx hb dL_isFault_15 rfl (lv_at hl 0 rfl) ?_
  refine lv_iconst (v := nI 0) hx hb dL_isFault_16 (by decide) ?_
  refine o_call (o := (X, h9, (tyF cb 8 (tyF ca 8 (0, Ch))).1, (tyF cb 8 (tyF ca 8 (0, Ch))).2)) (As := [.int (nI 0)]) (rest := []) hF (U_fault_y l E tm tl D fs (X, h9, (tyF cb 8 (tyF ca 8 (0, Ch))).1, (tyF cb 8 (tyF ca 8 (0, Ch))).2) xb 0 (by omega)) (cwV 1 hts gL_isFault_X6_fault rfl rfl rfl (by decide +kernel) ⟨Nat.le_of_ble_eq_true rfl, Nat.le_of_ble_eq_true rfl⟩) hG hZ (fun _ h9 => h9) hO hS rfl hl.1 rfl (lv_room (Nat.le_of_ble_eq_true rfl)) dL_isFault_17 ⟨Nat.le_of_ble_eq_true rfl, Nat.le_of_ble_eq_true rfl⟩ (fun r9 o9 HZ locsZ hp hO hS hsz9 hfr9 => ?_)
  obtain ⟨er, rfl⟩ := hp
  obtain rfl : r9 = p := er.trans h0
  refine lv_iload hx hb dL_isFault_20 (lv_at hl 3 rfl) ?_
  refine lv_icmp_ne (tgt := 39) hx hb dL_isFault_22 (by decide) (fun c9 => absurd rfl c9) (fun _ => ?_)
  refine lv_aload_n hx hb dL_isFault_25 rfl (lv_at hl 0 rfl) ?_
  refine lv_iconst (v := nI 1) hx hb dL_isFault_26 (by decide) ?_
  refine o_call (o := (X, h9, (tyF cb 8 (tyF ca 8 (0, Ch))).1, (tyF cb 8 (tyF ca 8 (0, Ch))).2)) (As := [.int (nI 1)]) (rest := []) hF (U_fault_y l E tm tl D fs (X, h9, (tyF cb 8 (tyF ca 8 (0, Ch))).1, (tyF cb 8 (tyF ca 8 (0, Ch))).2) xb 1 (by omega)) (cwV 1 hts gL_isFault_X6_fault rfl rfl rfl (by decide +kernel) ⟨Nat.le_of_ble_eq_true rfl, Nat.le_of_ble_eq_true rfl⟩) hG hZ (fun _ h9 => h9) hO hS rfl hl.1 rfl (lv_room (Nat.le_of_ble_eq_true rfl)) dL_isFault_27 ⟨Nat.le_of_ble_eq_true rfl, Nat.le_of_ble_eq_true rfl⟩ (fun r9 o9 HZ locsZ hp hO hS hsz9 hfr9 => ?_)
  obtain ⟨er, rfl⟩ := hp
  obtain rfl : r9 = r := er.trans h1
  refine lv_iload hx hb dL_isFault_30 (lv_at hl 4 rfl) ?_
  refine lv_icmp_ne (tgt := 39) hx hb dL_isFault_32 (by decide) (fun c9 => absurd rfl c9) (fun _ => ?_)
  refine lv_iconst (v := nI 1) hx hb dL_isFault_35 (by decide) ?_
  refine lv_goto (tgt := 40) hx hb dL_isFault_36 (by decide) ?_
  exact hret _ _ _ _ _ _ hO hS dL_isFault_40 ⟨rfl, rfl⟩
