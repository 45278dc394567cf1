set_option maxHeartbeats 8000000 in
set_option maxRecDepth 100000 in
theorem c_L_refused (l : Launch) (E : zE) (tm tl : Nat) (D : Nat → Prop) (fs : Nat) (o : oS) (xb : XB o.1) (hp1 : ∀ i, i < o.1 13 0 → 1 ≤ o.1 0 i) : oM l yL_refused wsL_refused ({ frames := 9, cells := 0, slots := 0, locals := 208 }) E tm tl D fs [.ref fs] o (fun r o9 => r = nI 1 ∧ o9 = o) := by
  refine oM.start (own := RL) rfl (by decide +kernel) rfl (Nat.le_of_ble_eq_true rfl) (fun v o9 h => by obtain ⟨rfl, -⟩ := h; rfl) ?_
  intro pZ eZ sZ mZ argsZ belowZ methZ cZ QZ hF hret hG hZ HZ locsZ hO hS ls hl
  obtain ⟨hx, hb, hml, hown, hts⟩ := id hF
  obtain ⟨X, h9, len, Ch⟩ := o
  have xb : XB X := xb
  have hn : X 13 0 ≤ 12 := xb.1
  have hsz : X 13 1 ≤ 52 := xb.2.2.2.2.2.2.2.2.2.2.2.2.2.2.2.2.2.1
  have hp1 : ∀ i, i < X 13 0 → 1 ≤ X 0 i := hp1
  have T : ∀ (HZ : Heap) (locsZ : List Loc) (ls : Array Slot), HO E D fs (X, h9, len, Ch) HZ → va_S D sZ.heap HZ locsZ → lv_has ls 6 [(0, .ref fs), (1, .long (mxL (mxL (dgX X) (ctX X h9.length len (bzL (X 7) (X 4) 4) (sumP (X 6) 4) 12).toInt64) (ctX X h9.length len (bzL (X 7) (X 4) 4) (sumP (X 6) 4) 13).toInt64)), (3, .int (nI (X 13 0)))] → W pZ l eZ ({ frames := 9, cells := 0, slots := 0, locals := 208 }) sZ mZ argsZ belowZ methZ cZ HZ locsZ 0 0 QZ (F0 mZ 492 ls []) := by
    intro HZ locsZ ls hO hS hl
    refine lv_aload_n hx hb dL_refused_492 rfl (lv_at hl 0 rfl) ?_
    refine o_callL (o := (X, h9, len, Ch)) (As := [.ref fs]) (rest := []) hF (c_L_state l E tm tl D fs (X, h9, len, Ch) xb) (cwS 1 hts gL_refused_L_state rfl rfl rfl (by decide +kernel) ⟨Nat.le_of_ble_eq_true rfl, Nat.le_of_ble_eq_true rfl⟩) hG hZ (fun _ h9 => h9) hO hS rfl hl.1 rfl (lv_room (Nat.le_of_ble_eq_true rfl)) dL_refused_493 ⟨Nat.le_of_ble_eq_true rfl, Nat.le_of_ble_eq_true rfl⟩ (fun r9 o9 HZ locsZ hp hO hS hsz9 hfr9 => ?_)
    obtain ⟨rfl, rfl⟩ := hp
    refine lv_aload_n hx hb dL_refused_496 rfl (lv_at hl 0 rfl) ?_
    refine lv_bipush (v := nI 12) hx hb dL_refused_497 (by decide) ?_
    refine o_call (o := (X, h9, len, Ch)) (As := [.int (nI 12)]) (rest := [.long (dgX X)]) hF (U_count_y l E tm tl D fs (X, h9, len, Ch) xb 12 (by omega)) (cwV 1 hts gL_refused_X6_count rfl rfl rfl (by decide +kernel) ⟨Nat.le_of_ble_eq_true rfl, Nat.le_of_ble_eq_true rfl⟩) hG hZ (fun _ h9 => h9) hO hS rfl hl.1 rfl (lv_room (Nat.le_of_ble_eq_true rfl)) dL_refused_499 ⟨Nat.le_of_ble_eq_true rfl, Nat.le_of_ble_eq_true rfl⟩ (fun r9 o9 HZ locsZ hp hO hS hsz9 hfr9 => ?_)
    obtain ⟨rfl, rfl⟩ := hp
    refine lv_i2l hx hb dL_refused_502 rfl ?_
    refine z_rdl (fun _ h => h) (va_runS (As := [.long (dgX X), .long ((ctX X h9.length len (bzL (X 7) (X 4) 4) (sumP (X 6) 4) 12).toInt64)]) (rest := []) hF (c_L_mixed l E (dgX X) ((ctX X h9.length len (bzL (X 7) (X 4) 4) (sumP (X 6) 4) 12).toInt64)) (cwS 2 hts gL_refused_L_mixed rfl rfl rfl (by decide +kernel) ⟨Nat.le_of_ble_eq_true rfl, Nat.le_of_ble_eq_true rfl⟩) (z_preR zP_nil hG) rfl rfl hl.1 rfl (lv_room (Nat.le_of_ble_eq_true rfl)) dL_refused_503 ⟨Nat.zero_le _, Nat.zero_le _⟩) (fun m9 hm => ?_)
    subst hm
    refine lv_aload_n hx hb dL_refused_506 rfl (lv_at hl 0 rfl) ?_
    refine lv_bipush (v := nI 13) hx hb dL_refused_507 (by decide) ?_
    refine o_call (o := (X, h9, len, Ch)) (As := [.int (nI 13)]) (rest := [.long (mxL (dgX X) ((ctX X h9.length len (bzL (X 7) (X 4) 4) (sumP (X 6) 4) 12).toInt64))]) hF (U_count_y l E tm tl D fs (X, h9, len, Ch) xb 13 (by omega)) (cwV 1 hts gL_refused_X6_count rfl rfl rfl (by decide +kernel) ⟨Nat.le_of_ble_eq_true rfl, Nat.le_of_ble_eq_true rfl⟩) hG hZ (fun _ h9 => h9) hO hS rfl hl.1 rfl (lv_room (Nat.le_of_ble_eq_true rfl)) dL_refused_509 ⟨Nat.le_of_ble_eq_true rfl, Nat.le_of_ble_eq_true rfl⟩ (fun r9 o9 HZ locsZ hp hO hS hsz9 hfr9 => ?_)
    obtain ⟨rfl, rfl⟩ := hp
    refine lv_i2l hx hb dL_refused_512 rfl ?_
    refine z_rdl (fun _ h => h) (va_runS (As := [.long (mxL (dgX X) ((ctX X h9.length len (bzL (X 7) (X 4) 4) (sumP (X 6) 4) 12).toInt64)), .long ((ctX X h9.length len (bzL (X 7) (X 4) 4) (sumP (X 6) 4) 13).toInt64)]) (rest := []) hF (c_L_mixed l E (mxL (dgX X) ((ctX X h9.length len (bzL (X 7) (X 4) 4) (sumP (X 6) 4) 12).toInt64)) ((ctX X h9.length len (bzL (X 7) (X 4) 4) (sumP (X 6) 4) 13).toInt64)) (cwS 2 hts gL_refused_L_mixed rfl rfl rfl (by decide +kernel) ⟨Nat.le_of_ble_eq_true rfl, Nat.le_of_ble_eq_true rfl⟩) (z_preR zP_nil hG) rfl rfl hl.1 rfl (lv_room (Nat.le_of_ble_eq_true rfl)) dL_refused_513 ⟨Nat.zero_le _, Nat.zero_le _⟩) (fun m9 hm => ?_)
    subst hm
    refine lv_lload_n hx hb dL_refused_516 rfl (lv_at hl 1 rfl) ?_
    refine W.lcmp hx hb dL_refused_517 ?_
    refine lv_if_ne (tgt := 525) hx hb dL_refused_518 (by decide) (fun c9 => absurd ((lg_cmp_eq _ _).mpr rfl) c9) (fun _ => ?_)
    refine lv_iconst (v := nI 1) hx hb dL_refused_521 (by decide) ?_
    refine lv_goto (tgt := 526) hx hb dL_refused_522 (by decide) ?_
    exact hret _ _ _ _ _ _ hO hS dL_refused_526 ⟨rfl, rfl⟩
  have hl : lv_has ls 6 [(0, .ref fs)] := hl
  refine lv_aload_n hx hb dL_refused_0 rfl (lv_at hl 0 rfl) ?_
  refine o_callL (o := (X, h9, len, Ch)) (As := [.ref fs]) (rest := []) hF (c_L_state l E tm tl D fs (X, h9, len, Ch) xb) (cwS 1 hts gL_refused_L_state rfl rfl rfl (by decide +kernel) ⟨Nat.le_of_ble_eq_true rfl, Nat.le_of_ble_eq_true rfl⟩) hG hZ (fun _ h9 => h9) hO hS rfl hl.1 rfl (lv_room (Nat.le_of_ble_eq_true rfl)) dL_refused_1 ⟨Nat.le_of_ble_eq_true rfl, Nat.le_of_ble_eq_true rfl⟩ (fun r9 o9 HZ locsZ hp hO hS hsz9 hfr9 => ?_)
  obtain ⟨rfl, rfl⟩ := hp
  refine lv_aload_n hx hb dL_refused_4 rfl (lv_at hl 0 rfl) ?_
  refine lv_bipush (v := nI 12) hx hb dL_refused_5 (by decide) ?_
  refine o_call (o := (X, h9, len, Ch)) (As := [.int (nI 12)]) (rest := [.long (dgX X)]) hF (U_count_y l E tm tl D fs (X, h9, len, Ch) xb 12 (by omega)) (cwV 1 hts gL_refused_X6_count rfl rfl rfl (by decide +kernel) ⟨Nat.le_of_ble_eq_true rfl, Nat.le_of_ble_eq_true rfl⟩) hG hZ (fun _ h9 => h9) hO hS rfl hl.1 rfl (lv_room (Nat.le_of_ble_eq_true rfl)) dL_refused_7 ⟨Nat.le_of_ble_eq_true rfl, Nat.le_of_ble_eq_true rfl⟩ (fun r9 o9 HZ locsZ hp hO hS hsz9 hfr9 => ?_)
  obtain ⟨rfl, rfl⟩ := hp
  refine lv_i2l hx hb dL_refused_10 rfl ?_
  refine z_rdl (fun _ h => h) (va_runS (As := [.long (dgX X), .long ((ctX X h9.length len (bzL (X 7) (X 4) 4) (sumP (X 6) 4) 12).toInt64)]) (rest := []) hF (c_L_mixed l E (dgX X) ((ctX X h9.length len (bzL (X 7) (X 4) 4) (sumP (X 6) 4) 12).toInt64)) (cwS 2 hts gL_refused_L_mixed rfl rfl rfl (by decide +kernel) ⟨Nat.le_of_ble_eq_true rfl, Nat.le_of_ble_eq_true rfl⟩) (z_preR zP_nil hG) rfl rfl hl.1 rfl (lv_room (Nat.le_of_ble_eq_true rfl)) dL_refused_11 ⟨Nat.zero_le _, Nat.zero_le _⟩) (fun m9 hm => ?_)
  subst hm
  refine lv_aload_n hx hb dL_refused_14 rfl (lv_at hl 0 rfl) ?_
  refine lv_bipush (v := nI 13) hx hb dL_refused_15 (by decide) ?_
  refine o_call (o := (X, h9, len, Ch)) (As := [.int (nI 13)]) (rest := [.long (mxL (dgX X) ((ctX X h9.length len (bzL (X 7) (X 4) 4) (sumP (X 6) 4) 12).toInt64))]) hF (U_count_y l E tm tl D fs (X, h9, len, Ch) xb 13 (by omega)) (cwV 1 hts gL_refused_X6_count rfl rfl rfl (by decide +kernel) ⟨Nat.le_of_ble_eq_true rfl, Nat.le_of_ble_eq_true rfl⟩) hG hZ (fun _ h9 => h9) hO hS rfl hl.1 rfl (lv_room (Nat.le_of_ble_eq_true rfl)) dL_refused_17 ⟨Nat.le_of_ble_eq_true rfl, Nat.le_of_ble_eq_true rfl⟩ (fun r9 o9 HZ locsZ hp hO hS hsz9 hfr9 => ?_)
  obtain ⟨rfl, rfl⟩ := hp
  refine lv_i2l hx hb dL_refused_20 rfl ?_
  refine z_rdl (fun _ h => h) (va_runS (As := [.long (mxL (dgX X) ((ctX X h9.length len (bzL (X 7) (X 4) 4) (sumP (X 6) 4) 12).toInt64)), .long ((ctX X h9.length len (bzL (X 7) (X 4) 4) (sumP (X 6) 4) 13).toInt64)]) (rest := []) hF (c_L_mixed l E (mxL (dgX X) ((ctX X h9.length len (bzL (X 7) (X 4) 4) (sumP (X 6) 4) 12).toInt64)) ((ctX X h9.length len (bzL (X 7) (X 4) 4) (sumP (X 6) 4) 13).toInt64)) (cwS 2 hts gL_refused_L_mixed rfl rfl rfl (by decide +kernel) ⟨Nat.le_of_ble_eq_true rfl, Nat.le_of_ble_eq_true rfl⟩) (z_preR zP_nil hG) rfl rfl hl.1 rfl (lv_room (Nat.le_of_ble_eq_true rfl)) dL_refused_21 ⟨Nat.zero_le _, Nat.zero_le _⟩) (fun m9 hm => ?_)
  subst hm
  refine lv_lstore_n (lv' := [(1, .long (mxL (mxL (dgX X) ((ctX X h9.length len (bzL (X 7) (X 4) 4) (sumP (X 6) 4) 12).toInt64)) ((ctX X h9.length len (bzL (X 7) (X 4) 4) (sumP (X 6) 4) 13).toInt64))), (0, .ref fs)]) hx hb dL_refused_24 rfl hl (by decide) rfl (fun ls hl => ?_)
  refine lv_aload_n hx hb dL_refused_25 rfl (lv_at hl 1 rfl) ?_
  refine lv_iconst (v := nI 0) hx hb dL_refused_26 (by decide) ?_
  refine o_call (o := (X, h9, len, Ch)) (As := [.int (nI 0)]) (rest := []) hF (U_count_y l E tm tl D fs (X, h9, len, Ch) xb 0 (by omega)) (cwV 1 hts gL_refused_X6_count rfl rfl rfl (by decide +kernel) ⟨Nat.le_of_ble_eq_true rfl, Nat.le_of_ble_eq_true rfl⟩) hG hZ (fun _ h9 => h9) hO hS rfl hl.1 rfl (lv_room (Nat.le_of_ble_eq_true rfl)) dL_refused_27 ⟨Nat.le_of_ble_eq_true rfl, Nat.le_of_ble_eq_true rfl⟩ (fun r9 o9 HZ locsZ hp hO hS hsz9 hfr9 => ?_)
  obtain ⟨rfl, rfl⟩ := hp
  refine lv_topi (fun r8 e8 => ?_)
  obtain rfl : r8 = nI (X 13 0) := e8
  refine lv_istore_n (lv' := [(3, .int (nI (X 13 0))), (1, .long (mxL (mxL (dgX X) ((ctX X h9.length len (bzL (X 7) (X 4) 4) (sumP (X 6) 4) 12).toInt64)) ((ctX X h9.length len (bzL (X 7) (X 4) 4) (sumP (X 6) 4) 13).toInt64))), (0, .ref fs)]) hx hb dL_refused_30 rfl hl (by decide) rfl (fun ls hl => ?_)
  refine lv_aload_n hx hb dL_refused_31 rfl (lv_at hl 2 rfl) ?_
  refine o_callS (o := (X, h9, len, Ch)) (As := [.ref fs]) (rest := []) hF (c_L_refusesStrings l E tm tl D fs (X, h9, len, Ch) xb) (cwS 1 hts gL_refused_L_refusesStrings rfl rfl rfl (by decide +kernel) ⟨Nat.le_of_ble_eq_true rfl, Nat.le_of_ble_eq_true rfl⟩) hG hZ (fun _ h9 => h9) hO hS rfl hl.1 rfl (lv_room (Nat.le_of_ble_eq_true rfl)) dL_refused_32 ⟨Nat.le_of_ble_eq_true rfl, Nat.le_of_ble_eq_true rfl⟩ (fun r9 o9 HZ locsZ hp hO hS hsz9 hfr9 => ?_)
  obtain ⟨rfl, rfl⟩ := hp
  refine lv_if_eq (tgt := 211) hx hb dL_refused_35 (by decide) (fun c9 => absurd c9 (by decide)) (fun _ => ?_)
  refine lv_aload_n hx hb dL_refused_38 rfl (lv_at hl 2 rfl) ?_
  refine lv_iconst (v := nI 0) hx hb dL_refused_39 (by decide) ?_
  refine lv_iconst (v := nI 0) hx hb dL_refused_40 (by decide) ?_
  refine o_call (o := (X, h9, len, Ch)) (As := [.int (nI 0), .int (nI 0)]) (rest := []) hF (U_fret_i l E tm tl D fs (X, h9, len, Ch) xb (nI 0) (nI 0) (fun h => absurd h.1 (by decide +kernel))) (cwV 2 hts gL_refused_X6_fret rfl rfl rfl (by decide +kernel) ⟨Nat.le_of_ble_eq_true rfl, Nat.le_of_ble_eq_true rfl⟩) hG hZ (fun _ h9 => h9) hO hS rfl hl.1 rfl (lv_room (Nat.le_of_ble_eq_true rfl)) dL_refused_41 ⟨Nat.le_of_ble_eq_true rfl, Nat.le_of_ble_eq_true rfl⟩ (fun r9 o9 HZ locsZ hp hO hS hsz9 hfr9 => ?_)
  obtain ⟨rfl, rfl⟩ := hp
  refine lv_iconst (v := (-1)) hx hb dL_refused_44 (by decide) ?_
  refine lv_icmp_ne (tgt := 211) hx hb dL_refused_45 (by decide) (fun c9 => absurd c9 (by decide)) (fun _ => ?_)
  refine lv_aload_n hx hb dL_refused_48 rfl (lv_at hl 2 rfl) ?_
  refine lv_sipush (v := nI 2401) hx hb dL_refused_49 (by decide) ?_
  refine lv_iconst (v := nI 0) hx hb dL_refused_52 (by decide) ?_
  refine o_call (o := (X, h9, len, Ch)) (As := [.int (nI 2401), .int (nI 0)]) (rest := []) hF (U_fret_i l E tm tl D fs (X, h9, len, Ch) xb (nI 2401) (nI 0) (fun h => absurd h.1 (by decide +kernel))) (cwV 2 hts gL_refused_X6_fret rfl rfl rfl (by decide +kernel) ⟨Nat.le_of_ble_eq_true rfl, Nat.le_of_ble_eq_true rfl⟩) hG hZ (fun _ h9 => h9) hO hS rfl hl.1 rfl (lv_room (Nat.le_of_ble_eq_true rfl)) dL_refused_53 ⟨Nat.le_of_ble_eq_true rfl, Nat.le_of_ble_eq_true rfl⟩ (fun r9 o9 HZ locsZ hp hO hS hsz9 hfr9 => ?_)
  obtain ⟨rfl, rfl⟩ := hp
  refine lv_iconst (v := (-1)) hx hb dL_refused_56 (by decide) ?_
  refine lv_icmp_ne (tgt := 211) hx hb dL_refused_57 (by decide) (fun c9 => absurd c9 (by decide)) (fun _ => ?_)
  refine lv_aload_n hx hb dL_refused_60 rfl (lv_at hl 2 rfl) ?_
  refine lv_iconst (v := nI 1) hx hb dL_refused_61 (by decide) ?_
  refine lv_iconst (v := (-1)) hx hb dL_refused_62 (by decide) ?_
  refine o_call (o := (X, h9, len, Ch)) (As := [.int (nI 1), .int (-1)]) (rest := []) hF (U_fret_i l E tm tl D fs (X, h9, len, Ch) xb (nI 1) (-1) (fun h => absurd h.2 (by decide +kernel))) (cwV 2 hts gL_refused_X6_fret rfl rfl rfl (by decide +kernel) ⟨Nat.le_of_ble_eq_true rfl, Nat.le_of_ble_eq_true rfl⟩) hG hZ (fun _ h9 => h9) hO hS rfl hl.1 rfl (lv_room (Nat.le_of_ble_eq_true rfl)) dL_refused_63 ⟨Nat.le_of_ble_eq_true rfl, Nat.le_of_ble_eq_true rfl⟩ (fun r9 o9 HZ locsZ hp hO hS hsz9 hfr9 => ?_)
  obtain ⟨rfl, rfl⟩ := hp
  refine lv_iconst (v := (-1)) hx hb dL_refused_66 (by decide) ?_
  refine lv_icmp_ne (tgt := 211) hx hb dL_refused_67 (by decide) (fun c9 => absurd c9 (by decide)) (fun _ => ?_)
  refine lv_aload_n hx hb dL_refused_70 rfl (lv_at hl 2 rfl) ?_
  refine lv_iconst (v := nI 1) hx hb dL_refused_71 (by decide) ?_
  refine lv_sipush (v := nI 2001) hx hb dL_refused_72 (by decide) ?_
  refine o_call (o := (X, h9, len, Ch)) (As := [.int (nI 1), .int (nI 2001)]) (rest := []) hF (U_fret_i l E tm tl D fs (X, h9, len, Ch) xb (nI 1) (nI 2001) (fun h => absurd h.2 (by decide +kernel))) (cwV 2 hts gL_refused_X6_fret rfl rfl rfl (by decide +kernel) ⟨Nat.le_of_ble_eq_true rfl, Nat.le_of_ble_eq_true rfl⟩) hG hZ (fun _ h9 => h9) hO hS rfl hl.1 rfl (lv_room (Nat.le_of_ble_eq_true rfl)) dL_refused_75 ⟨Nat.le_of_ble_eq_true rfl, Nat.le_of_ble_eq_true rfl⟩ (fun r9 o9 HZ locsZ hp hO hS hsz9 hfr9 => ?_)
  obtain ⟨rfl, rfl⟩ := hp
  refine lv_iconst (v := (-1)) hx hb dL_refused_78 (by decide) ?_
  refine lv_icmp_ne (tgt := 211) hx hb dL_refused_79 (by decide) (fun c9 => absurd c9 (by decide)) (fun _ => ?_)
  refine lv_aload_n hx hb dL_refused_82 rfl (lv_at hl 2 rfl) ?_
  refine lv_iconst (v := nI 0) hx hb dL_refused_83 (by decide) ?_
  refine lv_iload_n hx hb dL_refused_84 rfl (lv_at hl 0 rfl) ?_
  refine lv_iconst (v := nI 1) hx hb dL_refused_85 (by decide) ?_
  refine z_iadd (a := X 13 0) (b := 1) hx hb dL_refused_86 ?_
  refine o_call (o := (X, h9, len, Ch)) (As := [.int (nI 0), .int (nI ((X 13 0) + 1))]) (rest := []) hF (U_press_i l E tm tl D fs (X, h9, len, Ch) xb (nI 0) (nI ((X 13 0) + 1)) (fun h => nF0 hn h.2)) (cwV 2 hts gL_refused_X6_press rfl rfl rfl (by decide +kernel) ⟨Nat.le_of_ble_eq_true rfl, Nat.le_of_ble_eq_true rfl⟩) hG hZ (fun _ h9 => h9) hO hS rfl hl.1 rfl (lv_room (Nat.le_of_ble_eq_true rfl)) dL_refused_87 ⟨Nat.le_of_ble_eq_true rfl, Nat.le_of_ble_eq_true rfl⟩ (fun r9 o9 HZ locsZ hp hO hS hsz9 hfr9 => ?_)
  obtain ⟨rfl, rfl⟩ := hp
  refine lv_iconst (v := (-1)) hx hb dL_refused_90 (by decide) ?_
  refine lv_icmp_ne (tgt := 211) hx hb dL_refused_91 (by decide) (fun c9 => absurd c9 (by decide)) (fun _ => ?_)
  refine lv_aload_n hx hb dL_refused_94 rfl (lv_at hl 2 rfl) ?_
  refine lv_iconst (v := nI 0) hx hb dL_refused_95 (by decide) ?_
  refine lv_iconst (v := (-1)) hx hb dL_refused_96 (by decide) ?_
  refine o_call (o := (X, h9, len, Ch)) (As := [.int (nI 0), .int (-1)]) (rest := []) hF (U_press_i l E tm tl D fs (X, h9, len, Ch) xb (nI 0) (-1) (fun h => absurd h.2.1 (by decide +kernel))) (cwV 2 hts gL_refused_X6_press rfl rfl rfl (by decide +kernel) ⟨Nat.le_of_ble_eq_true rfl, Nat.le_of_ble_eq_true rfl⟩) hG hZ (fun _ h9 => h9) hO hS rfl hl.1 rfl (lv_room (Nat.le_of_ble_eq_true rfl)) dL_refused_97 ⟨Nat.le_of_ble_eq_true rfl, Nat.le_of_ble_eq_true rfl⟩ (fun r9 o9 HZ locsZ hp hO hS hsz9 hfr9 => ?_)
  obtain ⟨rfl, rfl⟩ := hp
  refine lv_iconst (v := (-1)) hx hb dL_refused_100 (by decide) ?_
  refine lv_icmp_ne (tgt := 211) hx hb dL_refused_101 (by decide) (fun c9 => absurd c9 (by decide)) (fun _ => ?_)
  refine lv_aload_n hx hb dL_refused_104 rfl (lv_at hl 2 rfl) ?_
  refine lv_iconst (v := (-1)) hx hb dL_refused_105 (by decide) ?_
  refine lv_iconst (v := nI 1) hx hb dL_refused_106 (by decide) ?_
  refine o_call (o := (X, h9, len, Ch)) (As := [.int (-1), .int (nI 1)]) (rest := []) hF (U_set_i l E tm tl D fs (X, h9, len, Ch) (-1) (nI 1) (by unfold canP; decide +kernel)) (cwV 2 hts gL_refused_X6_set rfl rfl rfl (by decide +kernel) ⟨Nat.le_of_ble_eq_true rfl, Nat.le_of_ble_eq_true rfl⟩) hG hZ (fun _ h9 => h9) hO hS rfl hl.1 rfl (lv_room (Nat.le_of_ble_eq_true rfl)) dL_refused_107 ⟨Nat.le_of_ble_eq_true rfl, Nat.le_of_ble_eq_true rfl⟩ (fun r9 o9 HZ locsZ hp hO hS hsz9 hfr9 => ?_)
  obtain ⟨rfl, rfl⟩ := hp
  refine lv_iconst (v := (-1)) hx hb dL_refused_110 (by decide) ?_
  refine lv_icmp_ne (tgt := 211) hx hb dL_refused_111 (by decide) (fun c9 => absurd c9 (by decide)) (fun _ => ?_)
  refine lv_aload_n hx hb dL_refused_114 rfl (lv_at hl 2 rfl) ?_
  refine lv_iconst (v := nI 5) hx hb dL_refused_115 (by decide) ?_
  refine lv_iconst (v := nI 1) hx hb dL_refused_116 (by decide) ?_
  refine o_call (o := (X, h9, len, Ch)) (As := [.int (nI 5), .int (nI 1)]) (rest := []) hF (U_set_i l E tm tl D fs (X, h9, len, Ch) (nI 5) (nI 1) (by unfold canP; decide +kernel)) (cwV 2 hts gL_refused_X6_set rfl rfl rfl (by decide +kernel) ⟨Nat.le_of_ble_eq_true rfl, Nat.le_of_ble_eq_true rfl⟩) hG hZ (fun _ h9 => h9) hO hS rfl hl.1 rfl (lv_room (Nat.le_of_ble_eq_true rfl)) dL_refused_117 ⟨Nat.le_of_ble_eq_true rfl, Nat.le_of_ble_eq_true rfl⟩ (fun r9 o9 HZ locsZ hp hO hS hsz9 hfr9 => ?_)
  obtain ⟨rfl, rfl⟩ := hp
  refine lv_iconst (v := (-1)) hx hb dL_refused_120 (by decide) ?_
  refine lv_icmp_ne (tgt := 211) hx hb dL_refused_121 (by decide) (fun c9 => absurd c9 (by decide)) (fun _ => ?_)
  refine lv_aload_n hx hb dL_refused_124 rfl (lv_at hl 2 rfl) ?_
  refine lv_iconst (v := nI 0) hx hb dL_refused_125 (by decide) ?_
  refine lv_sipush (v := nI 1001) hx hb dL_refused_126 (by decide) ?_
  refine o_call (o := (X, h9, len, Ch)) (As := [.int (nI 0), .int (nI 1001)]) (rest := []) hF (U_set_i l E tm tl D fs (X, h9, len, Ch) (nI 0) (nI 1001) (by unfold canP; decide +kernel)) (cwV 2 hts gL_refused_X6_set rfl rfl rfl (by decide +kernel) ⟨Nat.le_of_ble_eq_true rfl, Nat.le_of_ble_eq_true rfl⟩) hG hZ (fun _ h9 => h9) hO hS rfl hl.1 rfl (lv_room (Nat.le_of_ble_eq_true rfl)) dL_refused_129 ⟨Nat.le_of_ble_eq_true rfl, Nat.le_of_ble_eq_true rfl⟩ (fun r9 o9 HZ locsZ hp hO hS hsz9 hfr9 => ?_)
  obtain ⟨rfl, rfl⟩ := hp
  refine lv_iconst (v := (-1)) hx hb dL_refused_132 (by decide) ?_
  refine lv_icmp_ne (tgt := 211) hx hb dL_refused_133 (by decide) (fun c9 => absurd c9 (by decide)) (fun _ => ?_)
  refine lv_aload_n hx hb dL_refused_136 rfl (lv_at hl 2 rfl) ?_
  refine lv_iconst (v := nI 0) hx hb dL_refused_137 (by decide) ?_
  refine lv_iconst (v := (-1)) hx hb dL_refused_138 (by decide) ?_
  refine o_call (o := (X, h9, len, Ch)) (As := [.int (nI 0), .int (-1)]) (rest := []) hF (U_set_i l E tm tl D fs (X, h9, len, Ch) (nI 0) (-1) (by unfold canP; decide +kernel)) (cwV 2 hts gL_refused_X6_set rfl rfl rfl (by decide +kernel) ⟨Nat.le_of_ble_eq_true rfl, Nat.le_of_ble_eq_true rfl⟩) hG hZ (fun _ h9 => h9) hO hS rfl hl.1 rfl (lv_room (Nat.le_of_ble_eq_true rfl)) dL_refused_139 ⟨Nat.le_of_ble_eq_true rfl, Nat.le_of_ble_eq_true rfl⟩ (fun r9 o9 HZ locsZ hp hO hS hsz9 hfr9 => ?_)
  obtain ⟨rfl, rfl⟩ := hp
  refine lv_iconst (v := (-1)) hx hb dL_refused_142 (by decide) ?_
  refine lv_icmp_ne (tgt := 211) hx hb dL_refused_143 (by decide) (fun c9 => absurd c9 (by decide)) (fun _ => ?_)
  refine lv_aload_n hx hb dL_refused_146 rfl (lv_at hl 2 rfl) ?_
  refine lv_iconst (v := nI 1) hx hb dL_refused_147 (by decide) ?_
  refine lv_bipush (v := nI 101) hx hb dL_refused_148 (by decide) ?_
  refine o_call (o := (X, h9, len, Ch)) (As := [.int (nI 1), .int (nI 101)]) (rest := []) hF (U_set_i l E tm tl D fs (X, h9, len, Ch) (nI 1) (nI 101) (by unfold canP; decide +kernel)) (cwV 2 hts gL_refused_X6_set rfl rfl rfl (by decide +kernel) ⟨Nat.le_of_ble_eq_true rfl, Nat.le_of_ble_eq_true rfl⟩) hG hZ (fun _ h9 => h9) hO hS rfl hl.1 rfl (lv_room (Nat.le_of_ble_eq_true rfl)) dL_refused_150 ⟨Nat.le_of_ble_eq_true rfl, Nat.le_of_ble_eq_true rfl⟩ (fun r9 o9 HZ locsZ hp hO hS hsz9 hfr9 => ?_)
  obtain ⟨rfl, rfl⟩ := hp
  refine lv_iconst (v := (-1)) hx hb dL_refused_153 (by decide) ?_
  refine lv_icmp_ne (tgt := 211) hx hb dL_refused_154 (by decide) (fun c9 => absurd c9 (by decide)) (fun _ => ?_)
  refine lv_aload_n hx hb dL_refused_157 rfl (lv_at hl 2 rfl) ?_
  refine lv_iconst (v := nI 2) hx hb dL_refused_158 (by decide) ?_
  refine lv_sipush (v := nI 1001) hx hb dL_refused_159 (by decide) ?_
  refine o_call (o := (X, h9, len, Ch)) (As := [.int (nI 2), .int (nI 1001)]) (rest := []) hF (U_set_i l E tm tl D fs (X, h9, len, Ch) (nI 2) (nI 1001) (by unfold canP; decide +kernel)) (cwV 2 hts gL_refused_X6_set rfl rfl rfl (by decide +kernel) ⟨Nat.le_of_ble_eq_true rfl, Nat.le_of_ble_eq_true rfl⟩) hG hZ (fun _ h9 => h9) hO hS rfl hl.1 rfl (lv_room (Nat.le_of_ble_eq_true rfl)) dL_refused_162 ⟨Nat.le_of_ble_eq_true rfl, Nat.le_of_ble_eq_true rfl⟩ (fun r9 o9 HZ locsZ hp hO hS hsz9 hfr9 => ?_)
  obtain ⟨rfl, rfl⟩ := hp
  refine lv_iconst (v := (-1)) hx hb dL_refused_165 (by decide) ?_
  refine lv_icmp_ne (tgt := 211) hx hb dL_refused_166 (by decide) (fun c9 => absurd c9 (by decide)) (fun _ => ?_)
  refine lv_aload_n hx hb dL_refused_169 rfl (lv_at hl 2 rfl) ?_
  refine lv_iconst (v := nI 3) hx hb dL_refused_170 (by decide) ?_
  refine lv_iconst (v := nI 0) hx hb dL_refused_171 (by decide) ?_
  refine o_call (o := (X, h9, len, Ch)) (As := [.int (nI 3), .int (nI 0)]) (rest := []) hF (U_set_i l E tm tl D fs (X, h9, len, Ch) (nI 3) (nI 0) (by unfold canP; decide +kernel)) (cwV 2 hts gL_refused_X6_set rfl rfl rfl (by decide +kernel) ⟨Nat.le_of_ble_eq_true rfl, Nat.le_of_ble_eq_true rfl⟩) hG hZ (fun _ h9 => h9) hO hS rfl hl.1 rfl (lv_room (Nat.le_of_ble_eq_true rfl)) dL_refused_172 ⟨Nat.le_of_ble_eq_true rfl, Nat.le_of_ble_eq_true rfl⟩ (fun r9 o9 HZ locsZ hp hO hS hsz9 hfr9 => ?_)
  obtain ⟨rfl, rfl⟩ := hp
  refine lv_iconst (v := (-1)) hx hb dL_refused_175 (by decide) ?_
  refine lv_icmp_ne (tgt := 211) hx hb dL_refused_176 (by decide) (fun c9 => absurd c9 (by decide)) (fun _ => ?_)
  refine lv_aload_n hx hb dL_refused_179 rfl (lv_at hl 2 rfl) ?_
  refine lv_iconst (v := nI 3) hx hb dL_refused_180 (by decide) ?_
  refine lv_ldc (v := nI 1000001) hx hb hown (hts (.constant RL 85 1000001) (by decide +kernel)) dL_refused_181 ?_
  refine o_call (o := (X, h9, len, Ch)) (As := [.int (nI 3), .int (nI 1000001)]) (rest := []) hF (U_set_i l E tm tl D fs (X, h9, len, Ch) (nI 3) (nI 1000001) (by unfold canP; decide +kernel)) (cwV 2 hts gL_refused_X6_set rfl rfl rfl (by decide +kernel) ⟨Nat.le_of_ble_eq_true rfl, Nat.le_of_ble_eq_true rfl⟩) hG hZ (fun _ h9 => h9) hO hS rfl hl.1 rfl (lv_room (Nat.le_of_ble_eq_true rfl)) dL_refused_183 ⟨Nat.le_of_ble_eq_true rfl, Nat.le_of_ble_eq_true rfl⟩ (fun r9 o9 HZ locsZ hp hO hS hsz9 hfr9 => ?_)
  obtain ⟨rfl, rfl⟩ := hp
  refine lv_iconst (v := (-1)) hx hb dL_refused_186 (by decide) ?_
  refine lv_icmp_ne (tgt := 211) hx hb dL_refused_187 (by decide) (fun c9 => absurd c9 (by decide)) (fun _ => ?_)
  refine lv_aload_n hx hb dL_refused_190 rfl (lv_at hl 2 rfl) ?_
  refine lv_iconst (v := nI 4) hx hb dL_refused_191 (by decide) ?_
  refine lv_ldc (v := nI 100001) hx hb hown (hts (.constant RL 86 100001) (by decide +kernel)) dL_refused_192 ?_
  refine o_call (o := (X, h9, len, Ch)) (As := [.int (nI 4), .int (nI 100001)]) (rest := []) hF (U_set_i l E tm tl D fs (X, h9, len, Ch) (nI 4) (nI 100001) (by unfold canP; decide +kernel)) (cwV 2 hts gL_refused_X6_set rfl rfl rfl (by decide +kernel) ⟨Nat.le_of_ble_eq_true rfl, Nat.le_of_ble_eq_true rfl⟩) hG hZ (fun _ h9 => h9) hO hS rfl hl.1 rfl (lv_room (Nat.le_of_ble_eq_true rfl)) dL_refused_194 ⟨Nat.le_of_ble_eq_true rfl, Nat.le_of_ble_eq_true rfl⟩ (fun r9 o9 HZ locsZ hp hO hS hsz9 hfr9 => ?_)
  obtain ⟨rfl, rfl⟩ := hp
  refine lv_iconst (v := (-1)) hx hb dL_refused_197 (by decide) ?_
  refine lv_icmp_ne (tgt := 211) hx hb dL_refused_198 (by decide) (fun c9 => absurd c9 (by decide)) (fun _ => ?_)
  refine lv_aload_n hx hb dL_refused_201 rfl (lv_at hl 2 rfl) ?_
  refine lv_iconst (v := nI 4) hx hb dL_refused_202 (by decide) ?_
  refine lv_iconst (v := (-1)) hx hb dL_refused_203 (by decide) ?_
  refine o_call (o := (X, h9, len, Ch)) (As := [.int (nI 4), .int (-1)]) (rest := []) hF (U_set_i l E tm tl D fs (X, h9, len, Ch) (nI 4) (-1) (by unfold canP; decide +kernel)) (cwV 2 hts gL_refused_X6_set rfl rfl rfl (by decide +kernel) ⟨Nat.le_of_ble_eq_true rfl, Nat.le_of_ble_eq_true rfl⟩) hG hZ (fun _ h9 => h9) hO hS rfl hl.1 rfl (lv_room (Nat.le_of_ble_eq_true rfl)) dL_refused_204 ⟨Nat.le_of_ble_eq_true rfl, Nat.le_of_ble_eq_true rfl⟩ (fun r9 o9 HZ locsZ hp hO hS hsz9 hfr9 => ?_)
  obtain ⟨rfl, rfl⟩ := hp
  refine lv_iconst (v := (-1)) hx hb dL_refused_207 (by decide) ?_
  refine lv_icmp_eq (tgt := 213) hx hb dL_refused_208 (by decide) (fun _ => ?_) (fun c9 => absurd c9 (by decide))
  refine lv_iconst (v := nI 0) hx hb dL_refused_213 (by decide) ?_
  refine lv_istore (lv' := [(4, .int (nI 0)), (3, .int (nI (X 13 0))), (1, .long (mxL (mxL (dgX X) ((ctX X h9.length len (bzL (X 7) (X 4) 4) (sumP (X 6) 4) 12).toInt64)) ((ctX X h9.length len (bzL (X 7) (X 4) 4) (sumP (X 6) 4) 13).toInt64))), (0, .ref fs)]) hx hb dL_refused_214 hl (by decide) rfl (fun ls hl => ?_)
  refine lv_iload hx hb dL_refused_216 (lv_at hl 0 rfl) ?_
  refine lv_iconst (v := nI 2) hx hb dL_refused_218 (by decide) ?_
  refine lv_icmp_ge (tgt := 276) hx hb dL_refused_219 (by decide) (fun c9 => absurd c9 (by decide)) (fun _ => ?_)
  refine lv_iload hx hb dL_refused_222 (lv_at hl 0 rfl) ?_
  refine lv_if_ne (tgt := 233) hx hb dL_refused_224 (by decide) (fun c9 => absurd c9 (by decide)) (fun _ => ?_)
  refine lv_iload_n hx hb dL_refused_227 rfl (lv_at hl 1 rfl) ?_
  refine lv_iconst (v := nI 1) hx hb dL_refused_228 (by decide) ?_
  refine z_iadd (a := X 13 0) (b := 1) hx hb dL_refused_229 ?_
  refine lv_goto (tgt := 234) hx hb dL_refused_230 (by decide) ?_
  refine lv_istore (lv' := [(5, .int (nI ((X 13 0) + 1))), (4, .int (nI 0)), (3, .int (nI (X 13 0))), (1, .long (mxL (mxL (dgX X) ((ctX X h9.length len (bzL (X 7) (X 4) 4) (sumP (X 6) 4) 12).toInt64)) ((ctX X h9.length len (bzL (X 7) (X 4) 4) (sumP (X 6) 4) 13).toInt64))), (0, .ref fs)]) hx hb dL_refused_234 hl (by decide) rfl (fun ls hl => ?_)
  refine lv_aload_n hx hb dL_refused_236 rfl (lv_at hl 4 rfl) ?_
  refine lv_iload hx hb dL_refused_237 (lv_at hl 0 rfl) ?_
  refine lv_iconst (v := nI 0) hx hb dL_refused_239 (by decide) ?_
  refine o_call (o := (X, h9, len, Ch)) (As := [.int (nI ((X 13 0) + 1)), .int (nI 0)]) (rest := []) hF (U_level_i l E tm tl D fs (X, h9, len, Ch) xb (nI ((X 13 0) + 1)) (nI 0) (fun h => nF1 hn h.1)) (cwV 2 hts gL_refused_X6_level rfl rfl rfl (by decide +kernel) ⟨Nat.le_of_ble_eq_true rfl, Nat.le_of_ble_eq_true rfl⟩) hG hZ (fun _ h9 => h9) hO hS rfl hl.1 rfl (lv_room (Nat.le_of_ble_eq_true rfl)) dL_refused_240 ⟨Nat.le_of_ble_eq_true rfl, Nat.le_of_ble_eq_true rfl⟩ (fun r9 o9 HZ locsZ hp hO hS hsz9 hfr9 => ?_)
  obtain ⟨rfl, rfl⟩ := hp
  refine lv_iconst (v := (-1)) hx hb dL_refused_243 (by decide) ?_
  refine lv_icmp_ne (tgt := 268) hx hb dL_refused_244 (by decide) (fun c9 => absurd c9 (by decide)) (fun _ => ?_)
  refine lv_aload_n hx hb dL_refused_247 rfl (lv_at hl 4 rfl) ?_
  refine lv_iload hx hb dL_refused_248 (lv_at hl 0 rfl) ?_
  refine lv_iconst (v := nI 0) hx hb dL_refused_250 (by decide) ?_
  refine o_call (o := (X, h9, len, Ch)) (As := [.int (nI ((X 13 0) + 1)), .int (nI 0)]) (rest := []) hF (U_fretInfo_i l E tm tl D fs (X, h9, len, Ch) xb (nI ((X 13 0) + 1)) (nI 0) (fun h => nF1 hn h.1)) (cwV 2 hts gL_refused_X6_fretInfo rfl rfl rfl (by decide +kernel) ⟨Nat.le_of_ble_eq_true rfl, Nat.le_of_ble_eq_true rfl⟩) hG hZ (fun _ h9 => h9) hO hS rfl hl.1 rfl (lv_room (Nat.le_of_ble_eq_true rfl)) dL_refused_251 ⟨Nat.le_of_ble_eq_true rfl, Nat.le_of_ble_eq_true rfl⟩ (fun r9 o9 HZ locsZ hp hO hS hsz9 hfr9 => ?_)
  obtain ⟨rfl, rfl⟩ := hp
  refine lv_iconst (v := (-1)) hx hb dL_refused_254 (by decide) ?_
  refine lv_icmp_ne (tgt := 268) hx hb dL_refused_255 (by decide) (fun c9 => absurd c9 (by decide)) (fun _ => ?_)
  refine lv_aload_n hx hb dL_refused_258 rfl (lv_at hl 4 rfl) ?_
  refine lv_iload hx hb dL_refused_259 (lv_at hl 0 rfl) ?_
  refine o_call (o := (X, h9, len, Ch)) (As := [.int (nI ((X 13 0) + 1))]) (rest := []) hF (U_mostFor_i l E tm tl D fs (X, h9, len, Ch) xb (nI ((X 13 0) + 1)) (fun h => nF1 hn h)) (cwV 1 hts gL_refused_X6_mostFor rfl rfl rfl (by decide +kernel) ⟨Nat.le_of_ble_eq_true rfl, Nat.le_of_ble_eq_true rfl⟩) hG hZ (fun _ h9 => h9) hO hS rfl hl.1 rfl (lv_room (Nat.le_of_ble_eq_true rfl)) dL_refused_261 ⟨Nat.le_of_ble_eq_true rfl, Nat.le_of_ble_eq_true rfl⟩ (fun r9 o9 HZ locsZ hp hO hS hsz9 hfr9 => ?_)
  obtain ⟨rfl, rfl⟩ := hp
  refine lv_iconst (v := (-1)) hx hb dL_refused_264 (by decide) ?_
  refine lv_icmp_eq (tgt := 270) hx hb dL_refused_265 (by decide) (fun _ => ?_) (fun c9 => absurd c9 (by decide))
  refine z_iinc (k := 1) (d := 1) (lv' := [(4, .int (nI 1)), (5, .int (nI ((X 13 0) + 1))), (3, .int (nI (X 13 0))), (1, .long (mxL (mxL (dgX X) ((ctX X h9.length len (bzL (X 7) (X 4) 4) (sumP (X 6) 4) 12).toInt64)) ((ctX X h9.length len (bzL (X 7) (X 4) 4) (sumP (X 6) 4) 13).toInt64))), (0, .ref fs)]) hx hb dL_refused_270 (by decide) hl rfl (by decide) rfl (fun ls hl => ?_)
  refine lv_goto (tgt := 216) hx hb dL_refused_273 (by decide) ?_
  refine lv_iload hx hb dL_refused_216 (lv_at hl 0 rfl) ?_
  refine lv_iconst (v := nI 2) hx hb dL_refused_218 (by decide) ?_
  refine lv_icmp_ge (tgt := 276) hx hb dL_refused_219 (by decide) (fun c9 => absurd c9 (by decide)) (fun _ => ?_)
  refine lv_iload hx hb dL_refused_222 (lv_at hl 0 rfl) ?_
  refine lv_if_ne (tgt := 233) hx hb dL_refused_224 (by decide) (fun _ => ?_) (fun c9 => absurd c9 (by decide))
  refine lv_iconst (v := nI 0) hx hb dL_refused_233 (by decide) ?_
  refine lv_istore (lv' := [(5, .int (nI 0)), (4, .int (nI 1)), (3, .int (nI (X 13 0))), (1, .long (mxL (mxL (dgX X) ((ctX X h9.length len (bzL (X 7) (X 4) 4) (sumP (X 6) 4) 12).toInt64)) ((ctX X h9.length len (bzL (X 7) (X 4) 4) (sumP (X 6) 4) 13).toInt64))), (0, .ref fs)]) hx hb dL_refused_234 hl (by decide) rfl (fun ls hl => ?_)
  refine lv_aload_n hx hb dL_refused_236 rfl (lv_at hl 4 rfl) ?_
  refine lv_iload hx hb dL_refused_237 (lv_at hl 0 rfl) ?_
  refine lv_iconst (v := nI 0) hx hb dL_refused_239 (by decide) ?_
  refine o_call (o := (X, h9, len, Ch)) (As := [.int (nI 0), .int (nI 0)]) (rest := []) hF (U_level_i l E tm tl D fs (X, h9, len, Ch) xb (nI 0) (nI 0) (fun h => absurd h.1.1 (by decide +kernel))) (cwV 2 hts gL_refused_X6_level rfl rfl rfl (by decide +kernel) ⟨Nat.le_of_ble_eq_true rfl, Nat.le_of_ble_eq_true rfl⟩) hG hZ (fun _ h9 => h9) hO hS rfl hl.1 rfl (lv_room (Nat.le_of_ble_eq_true rfl)) dL_refused_240 ⟨Nat.le_of_ble_eq_true rfl, Nat.le_of_ble_eq_true rfl⟩ (fun r9 o9 HZ locsZ hp hO hS hsz9 hfr9 => ?_)
  obtain ⟨rfl, rfl⟩ := hp
  refine lv_iconst (v := (-1)) hx hb dL_refused_243 (by decide) ?_
  refine lv_icmp_ne (tgt := 268) hx hb dL_refused_244 (by decide) (fun c9 => absurd c9 (by decide)) (fun _ => ?_)
  refine lv_aload_n hx hb dL_refused_247 rfl (lv_at hl 4 rfl) ?_
  refine lv_iload hx hb dL_refused_248 (lv_at hl 0 rfl) ?_
  refine lv_iconst (v := nI 0) hx hb dL_refused_250 (by decide) ?_
  refine o_call (o := (X, h9, len, Ch)) (As := [.int (nI 0), .int (nI 0)]) (rest := []) hF (U_fretInfo_i l E tm tl D fs (X, h9, len, Ch) xb (nI 0) (nI 0) (fun h => absurd h.1.1 (by decide +kernel))) (cwV 2 hts gL_refused_X6_fretInfo rfl rfl rfl (by decide +kernel) ⟨Nat.le_of_ble_eq_true rfl, Nat.le_of_ble_eq_true rfl⟩) hG hZ (fun _ h9 => h9) hO hS rfl hl.1 rfl (lv_room (Nat.le_of_ble_eq_true rfl)) dL_refused_251 ⟨Nat.le_of_ble_eq_true rfl, Nat.le_of_ble_eq_true rfl⟩ (fun r9 o9 HZ locsZ hp hO hS hsz9 hfr9 => ?_)
  obtain ⟨rfl, rfl⟩ := hp
  refine lv_iconst (v := (-1)) hx hb dL_refused_254 (by decide) ?_
  refine lv_icmp_ne (tgt := 268) hx hb dL_refused_255 (by decide) (fun c9 => absurd c9 (by decide)) (fun _ => ?_)
  refine lv_aload_n hx hb dL_refused_258 rfl (lv_at hl 4 rfl) ?_
  refine lv_iload hx hb dL_refused_259 (lv_at hl 0 rfl) ?_
  refine o_call (o := (X, h9, len, Ch)) (As := [.int (nI 0)]) (rest := []) hF (U_mostFor_i l E tm tl D fs (X, h9, len, Ch) xb (nI 0) (fun h => absurd h.1 (by decide +kernel))) (cwV 1 hts gL_refused_X6_mostFor rfl rfl rfl (by decide +kernel) ⟨Nat.le_of_ble_eq_true rfl, Nat.le_of_ble_eq_true rfl⟩) hG hZ (fun _ h9 => h9) hO hS rfl hl.1 rfl (lv_room (Nat.le_of_ble_eq_true rfl)) dL_refused_261 ⟨Nat.le_of_ble_eq_true rfl, Nat.le_of_ble_eq_true rfl⟩ (fun r9 o9 HZ locsZ hp hO hS hsz9 hfr9 => ?_)
  obtain ⟨rfl, rfl⟩ := hp
  refine lv_iconst (v := (-1)) hx hb dL_refused_264 (by decide) ?_
  refine lv_icmp_eq (tgt := 270) hx hb dL_refused_265 (by decide) (fun _ => ?_) (fun c9 => absurd c9 (by decide))
  refine z_iinc (k := 1) (d := 1) (lv' := [(4, .int (nI 2)), (5, .int (nI 0)), (3, .int (nI (X 13 0))), (1, .long (mxL (mxL (dgX X) ((ctX X h9.length len (bzL (X 7) (X 4) 4) (sumP (X 6) 4) 12).toInt64)) ((ctX X h9.length len (bzL (X 7) (X 4) 4) (sumP (X 6) 4) 13).toInt64))), (0, .ref fs)]) hx hb dL_refused_270 (by decide) hl rfl (by decide) rfl (fun ls hl => ?_)
  refine lv_goto (tgt := 216) hx hb dL_refused_273 (by decide) ?_
  refine lv_iload hx hb dL_refused_216 (lv_at hl 0 rfl) ?_
  refine lv_iconst (v := nI 2) hx hb dL_refused_218 (by decide) ?_
  refine lv_icmp_ge (tgt := 276) hx hb dL_refused_219 (by decide) (fun _ => ?_) (fun c9 => absurd c9 (by decide))
  refine lv_aload_n hx hb dL_refused_276 rfl (lv_at hl 4 rfl) ?_
  refine lv_iconst (v := nI 0) hx hb dL_refused_277 (by decide) ?_
  refine o_call (o := (X, h9, len, Ch)) (As := [.int (nI 0)]) (rest := []) hF (U_run_i l E tm tl D fs (X, h9, len, Ch) xb (nI 0) (fun h => absurd h (by decide +kernel))) (cwV 1 hts gL_refused_X6_run rfl rfl rfl (by decide +kernel) ⟨Nat.le_of_ble_eq_true rfl, Nat.le_of_ble_eq_true rfl⟩) hG hZ (fun _ h9 => h9) hO hS rfl hl.1 rfl (lv_room (Nat.le_of_ble_eq_true rfl)) dL_refused_278 ⟨Nat.le_of_ble_eq_true rfl, Nat.le_of_ble_eq_true rfl⟩ (fun r9 o9 HZ locsZ hp hO hS hsz9 hfr9 => ?_)
  obtain ⟨rfl, rfl⟩ := hp
  refine lv_iconst (v := (-1)) hx hb dL_refused_281 (by decide) ?_
  refine lv_icmp_ne (tgt := 395) hx hb dL_refused_282 (by decide) (fun c9 => absurd c9 (by decide)) (fun _ => ?_)
  refine lv_aload_n hx hb dL_refused_285 rfl (lv_at hl 4 rfl) ?_
  refine lv_sipush (v := nI 501) hx hb dL_refused_286 (by decide) ?_
  refine o_call (o := (X, h9, len, Ch)) (As := [.int (nI 501)]) (rest := []) hF (U_run_i l E tm tl D fs (X, h9, len, Ch) xb (nI 501) (fun h => absurd h (by decide +kernel))) (cwV 1 hts gL_refused_X6_run rfl rfl rfl (by decide +kernel) ⟨Nat.le_of_ble_eq_true rfl, Nat.le_of_ble_eq_true rfl⟩) hG hZ (fun _ h9 => h9) hO hS rfl hl.1 rfl (lv_room (Nat.le_of_ble_eq_true rfl)) dL_refused_289 ⟨Nat.le_of_ble_eq_true rfl, Nat.le_of_ble_eq_true rfl⟩ (fun r9 o9 HZ locsZ hp hO hS hsz9 hfr9 => ?_)
  obtain ⟨rfl, rfl⟩ := hp
  refine lv_iconst (v := (-1)) hx hb dL_refused_292 (by decide) ?_
  refine lv_icmp_ne (tgt := 395) hx hb dL_refused_293 (by decide) (fun c9 => absurd c9 (by decide)) (fun _ => ?_)
  refine lv_aload_n hx hb dL_refused_296 rfl (lv_at hl 4 rfl) ?_
  refine lv_iconst (v := (-1)) hx hb dL_refused_297 (by decide) ?_
  refine lv_iconst (v := nI 0) hx hb dL_refused_298 (by decide) ?_
  refine o_call (o := (X, h9, len, Ch)) (As := [.int (-1), .int (nI 0)]) (rest := []) hF (U_played_i l E tm tl D fs (X, h9, len, Ch) xb (-1) (nI 0) (Or.inl (by decide +kernel))) (cwV 2 hts gL_refused_X6_played rfl rfl rfl (by decide +kernel) ⟨Nat.le_of_ble_eq_true rfl, Nat.le_of_ble_eq_true rfl⟩) hG hZ (fun _ h9 => h9) hO hS rfl hl.1 rfl (lv_room (Nat.le_of_ble_eq_true rfl)) dL_refused_299 ⟨Nat.le_of_ble_eq_true rfl, Nat.le_of_ble_eq_true rfl⟩ (fun r9 o9 HZ locsZ hp hO hS hsz9 hfr9 => ?_)
  obtain ⟨rfl, rfl⟩ := hp
  refine lv_iconst (v := (-1)) hx hb dL_refused_302 (by decide) ?_
  refine lv_icmp_ne (tgt := 395) hx hb dL_refused_303 (by decide) (fun c9 => absurd c9 (by decide)) (fun _ => ?_)
  refine lv_aload_n hx hb dL_refused_306 rfl (lv_at hl 4 rfl) ?_
  refine lv_iconst (v := nI 0) hx hb dL_refused_307 (by decide) ?_
  refine lv_iconst (v := nI 3) hx hb dL_refused_308 (by decide) ?_
  refine o_call (o := (X, h9, len, Ch)) (As := [.int (nI 0), .int (nI 3)]) (rest := []) hF (U_played_i l E tm tl D fs (X, h9, len, Ch) xb (nI 0) (nI 3) (Or.inr (by decide +kernel))) (cwV 2 hts gL_refused_X6_played rfl rfl rfl (by decide +kernel) ⟨Nat.le_of_ble_eq_true rfl, Nat.le_of_ble_eq_true rfl⟩) hG hZ (fun _ h9 => h9) hO hS rfl hl.1 rfl (lv_room (Nat.le_of_ble_eq_true rfl)) dL_refused_309 ⟨Nat.le_of_ble_eq_true rfl, Nat.le_of_ble_eq_true rfl⟩ (fun r9 o9 HZ locsZ hp hO hS hsz9 hfr9 => ?_)
  obtain ⟨rfl, rfl⟩ := hp
  refine lv_iconst (v := (-1)) hx hb dL_refused_312 (by decide) ?_
  refine lv_icmp_ne (tgt := 395) hx hb dL_refused_313 (by decide) (fun c9 => absurd c9 (by decide)) (fun _ => ?_)
  refine lv_aload_n hx hb dL_refused_316 rfl (lv_at hl 4 rfl) ?_
  refine lv_iconst (v := nI 0) hx hb dL_refused_317 (by decide) ?_
  refine lv_iconst (v := (-1)) hx hb dL_refused_318 (by decide) ?_
  refine o_call (o := (X, h9, len, Ch)) (As := [.int (nI 0), .int (-1)]) (rest := []) hF (U_played_i l E tm tl D fs (X, h9, len, Ch) xb (nI 0) (-1) (Or.inr (by decide +kernel))) (cwV 2 hts gL_refused_X6_played rfl rfl rfl (by decide +kernel) ⟨Nat.le_of_ble_eq_true rfl, Nat.le_of_ble_eq_true rfl⟩) hG hZ (fun _ h9 => h9) hO hS rfl hl.1 rfl (lv_room (Nat.le_of_ble_eq_true rfl)) dL_refused_319 ⟨Nat.le_of_ble_eq_true rfl, Nat.le_of_ble_eq_true rfl⟩ (fun r9 o9 HZ locsZ hp hO hS hsz9 hfr9 => ?_)
  obtain ⟨rfl, rfl⟩ := hp
  refine lv_iconst (v := (-1)) hx hb dL_refused_322 (by decide) ?_
  refine lv_icmp_ne (tgt := 395) hx hb dL_refused_323 (by decide) (fun c9 => absurd c9 (by decide)) (fun _ => ?_)
  refine lv_aload_n hx hb dL_refused_326 rfl (lv_at hl 4 rfl) ?_
  refine lv_bipush (v := nI 52) hx hb dL_refused_327 (by decide) ?_
  refine lv_iconst (v := nI 0) hx hb dL_refused_329 (by decide) ?_
  refine o_call (o := (X, h9, len, Ch)) (As := [.int (nI 52), .int (nI 0)]) (rest := []) hF (U_played_f l E tm tl D fs (X, h9, len, Ch) xb 52 0 hsz (by omega) (by omega)) (cwV 2 hts gL_refused_X6_played rfl rfl rfl (by decide +kernel) ⟨Nat.le_of_ble_eq_true rfl, Nat.le_of_ble_eq_true rfl⟩) hG hZ (fun _ h9 => h9) hO hS rfl hl.1 rfl (lv_room (Nat.le_of_ble_eq_true rfl)) dL_refused_330 ⟨Nat.le_of_ble_eq_true rfl, Nat.le_of_ble_eq_true rfl⟩ (fun r9 o9 HZ locsZ hp hO hS hsz9 hfr9 => ?_)
  obtain ⟨rfl, rfl⟩ := hp
  refine lv_bipush (v := (-4)) hx hb dL_refused_333 (by decide) ?_
  refine lv_icmp_ne (tgt := 395) hx hb dL_refused_335 (by decide) (fun c9 => absurd c9 (by decide)) (fun _ => ?_)
  refine lv_aload_n hx hb dL_refused_338 rfl (lv_at hl 4 rfl) ?_
  refine lv_iconst (v := (-1)) hx hb dL_refused_339 (by decide) ?_
  refine o_call (o := (X, h9, len, Ch)) (As := [.int (-1)]) (rest := []) hF (U_count_i l E tm tl D fs (X, h9, len, Ch) xb (-1) (fun h => absurd h (by decide +kernel))) (cwV 1 hts gL_refused_X6_count rfl rfl rfl (by decide +kernel) ⟨Nat.le_of_ble_eq_true rfl, Nat.le_of_ble_eq_true rfl⟩) hG hZ (fun _ h9 => h9) hO hS rfl hl.1 rfl (lv_room (Nat.le_of_ble_eq_true rfl)) dL_refused_340 ⟨Nat.le_of_ble_eq_true rfl, Nat.le_of_ble_eq_true rfl⟩ (fun r9 o9 HZ locsZ hp hO hS hsz9 hfr9 => ?_)
  obtain ⟨rfl, rfl⟩ := hp
  refine lv_iconst (v := (-1)) hx hb dL_refused_343 (by decide) ?_
  refine lv_icmp_ne (tgt := 395) hx hb dL_refused_344 (by decide) (fun c9 => absurd c9 (by decide)) (fun _ => ?_)
  refine lv_aload_n hx hb dL_refused_347 rfl (lv_at hl 4 rfl) ?_
  refine lv_bipush (v := nI 14) hx hb dL_refused_348 (by decide) ?_
  refine o_call (o := (X, h9, len, Ch)) (As := [.int (nI 14)]) (rest := []) hF (U_count_i l E tm tl D fs (X, h9, len, Ch) xb (nI 14) (fun h => absurd h (by decide +kernel))) (cwV 1 hts gL_refused_X6_count rfl rfl rfl (by decide +kernel) ⟨Nat.le_of_ble_eq_true rfl, Nat.le_of_ble_eq_true rfl⟩) hG hZ (fun _ h9 => h9) hO hS rfl hl.1 rfl (lv_room (Nat.le_of_ble_eq_true rfl)) dL_refused_350 ⟨Nat.le_of_ble_eq_true rfl, Nat.le_of_ble_eq_true rfl⟩ (fun r9 o9 HZ locsZ hp hO hS hsz9 hfr9 => ?_)
  obtain ⟨rfl, rfl⟩ := hp
  refine lv_iconst (v := (-1)) hx hb dL_refused_353 (by decide) ?_
  refine lv_icmp_ne (tgt := 395) hx hb dL_refused_354 (by decide) (fun c9 => absurd c9 (by decide)) (fun _ => ?_)
  refine lv_aload_n hx hb dL_refused_357 rfl (lv_at hl 4 rfl) ?_
  refine lv_bipush (v := nI 31) hx hb dL_refused_358 (by decide) ?_
  refine o_call (o := (X, h9, len, Ch)) (As := [.int (nI 31)]) (rest := []) hF (U_type_i l E tm tl D fs (X, h9, len, Ch) (nI 31) (fun h => absurd h (by decide +kernel))) (cwV 1 hts gL_refused_X6_type rfl rfl rfl (by decide +kernel) ⟨Nat.le_of_ble_eq_true rfl, Nat.le_of_ble_eq_true rfl⟩) hG hZ (fun _ h9 => h9) hO hS rfl hl.1 rfl (lv_room (Nat.le_of_ble_eq_true rfl)) dL_refused_360 ⟨Nat.le_of_ble_eq_true rfl, Nat.le_of_ble_eq_true rfl⟩ (fun r9 o9 HZ locsZ hp hO hS hsz9 hfr9 => ?_)
  obtain ⟨rfl, rfl⟩ := hp
  refine lv_iconst (v := (-1)) hx hb dL_refused_363 (by decide) ?_
  refine lv_icmp_ne (tgt := 395) hx hb dL_refused_364 (by decide) (fun c9 => absurd c9 (by decide)) (fun _ => ?_)
  refine lv_aload_n hx hb dL_refused_367 rfl (lv_at hl 4 rfl) ?_
  refine lv_bipush (v := nI 127) hx hb dL_refused_368 (by decide) ?_
  refine o_call (o := (X, h9, len, Ch)) (As := [.int (nI 127)]) (rest := []) hF (U_type_i l E tm tl D fs (X, h9, len, Ch) (nI 127) (fun h => absurd h (by decide +kernel))) (cwV 1 hts gL_refused_X6_type rfl rfl rfl (by decide +kernel) ⟨Nat.le_of_ble_eq_true rfl, Nat.le_of_ble_eq_true rfl⟩) hG hZ (fun _ h9 => h9) hO hS rfl hl.1 rfl (lv_room (Nat.le_of_ble_eq_true rfl)) dL_refused_370 ⟨Nat.le_of_ble_eq_true rfl, Nat.le_of_ble_eq_true rfl⟩ (fun r9 o9 HZ locsZ hp hO hS hsz9 hfr9 => ?_)
  obtain ⟨rfl, rfl⟩ := hp
  refine lv_iconst (v := (-1)) hx hb dL_refused_373 (by decide) ?_
  refine lv_icmp_ne (tgt := 395) hx hb dL_refused_374 (by decide) (fun c9 => absurd c9 (by decide)) (fun _ => ?_)
  refine lv_aload_n hx hb dL_refused_377 rfl (lv_at hl 4 rfl) ?_
  refine lv_iconst (v := (-1)) hx hb dL_refused_378 (by decide) ?_
  refine o_call (o := (X, h9, len, Ch)) (As := [.int (-1)]) (rest := []) hF (U_fault_i l E tm tl D fs (X, h9, len, Ch) xb (-1) (fun h => absurd h (by decide +kernel))) (cwV 1 hts gL_refused_X6_fault rfl rfl rfl (by decide +kernel) ⟨Nat.le_of_ble_eq_true rfl, Nat.le_of_ble_eq_true rfl⟩) hG hZ (fun _ h9 => h9) hO hS rfl hl.1 rfl (lv_room (Nat.le_of_ble_eq_true rfl)) dL_refused_379 ⟨Nat.le_of_ble_eq_true rfl, Nat.le_of_ble_eq_true rfl⟩ (fun r9 o9 HZ locsZ hp hO hS hsz9 hfr9 => ?_)
  obtain ⟨rfl, rfl⟩ := hp
  refine lv_iconst (v := (-1)) hx hb dL_refused_382 (by decide) ?_
  refine lv_icmp_ne (tgt := 395) hx hb dL_refused_383 (by decide) (fun c9 => absurd c9 (by decide)) (fun _ => ?_)
  refine lv_aload_n hx hb dL_refused_386 rfl (lv_at hl 4 rfl) ?_
  refine lv_iconst (v := nI 2) hx hb dL_refused_387 (by decide) ?_
  refine o_call (o := (X, h9, len, Ch)) (As := [.int (nI 2)]) (rest := []) hF (U_fault_i l E tm tl D fs (X, h9, len, Ch) xb (nI 2) (fun h => absurd h (by decide +kernel))) (cwV 1 hts gL_refused_X6_fault rfl rfl rfl (by decide +kernel) ⟨Nat.le_of_ble_eq_true rfl, Nat.le_of_ble_eq_true rfl⟩) hG hZ (fun _ h9 => h9) hO hS rfl hl.1 rfl (lv_room (Nat.le_of_ble_eq_true rfl)) dL_refused_388 ⟨Nat.le_of_ble_eq_true rfl, Nat.le_of_ble_eq_true rfl⟩ (fun r9 o9 HZ locsZ hp hO hS hsz9 hfr9 => ?_)
  obtain ⟨rfl, rfl⟩ := hp
  refine lv_iconst (v := (-1)) hx hb dL_refused_391 (by decide) ?_
  refine lv_icmp_eq (tgt := 397) hx hb dL_refused_392 (by decide) (fun _ => ?_) (fun c9 => absurd c9 (by decide))
  refine lv_iload_n hx hb dL_refused_397 rfl (lv_at hl 2 rfl) ?_
  refine z_if_le (tgt := 492) hx hb dL_refused_398 (by decide) (a := X 13 0) (by omega) (fun c1 => ?_) (fun c1 => ?_)
  · -- no frets
    have hl := lv_sub hl [4, 3, 2] rfl
    exact T _ _ _ hO hS hl
  · -- frets
    refine lv_aload_n hx hb dL_refused_401 rfl (lv_at hl 4 rfl) ?_
    refine lv_iconst (v := nI 1) hx hb dL_refused_402 (by decide) ?_
    refine lv_iconst (v := (-1)) hx hb dL_refused_403 (by decide) ?_
    refine o_call (o := (X, h9, len, Ch)) (As := [.int (nI 1), .int (-1)]) (rest := []) hF (U_level_i l E tm tl D fs (X, h9, len, Ch) xb (nI 1) (-1) (fun h => absurd h.2 (by decide +kernel))) (cwV 2 hts gL_refused_X6_level rfl rfl rfl (by decide +kernel) ⟨Nat.le_of_ble_eq_true rfl, Nat.le_of_ble_eq_true rfl⟩) hG hZ (fun _ h9 => h9) hO hS rfl hl.1 rfl (lv_room (Nat.le_of_ble_eq_true rfl)) dL_refused_404 ⟨Nat.le_of_ble_eq_true rfl, Nat.le_of_ble_eq_true rfl⟩ (fun r9 o9 HZ locsZ hp hO hS hsz9 hfr9 => ?_)
    obtain ⟨rfl, rfl⟩ := hp
    refine lv_iconst (v := (-1)) hx hb dL_refused_407 (by decide) ?_
    refine lv_icmp_ne (tgt := 490) hx hb dL_refused_408 (by decide) (fun c9 => absurd c9 (by decide)) (fun _ => ?_)
    refine lv_aload_n hx hb dL_refused_411 rfl (lv_at hl 4 rfl) ?_
    refine lv_iconst (v := nI 1) hx hb dL_refused_412 (by decide) ?_
    refine lv_sipush (v := nI 2001) hx hb dL_refused_413 (by decide) ?_
    refine o_call (o := (X, h9, len, Ch)) (As := [.int (nI 1), .int (nI 2001)]) (rest := []) hF (U_level_i l E tm tl D fs (X, h9, len, Ch) xb (nI 1) (nI 2001) (fun h => absurd h.2 (by decide +kernel))) (cwV 2 hts gL_refused_X6_level rfl rfl rfl (by decide +kernel) ⟨Nat.le_of_ble_eq_true rfl, Nat.le_of_ble_eq_true rfl⟩) hG hZ (fun _ h9 => h9) hO hS rfl hl.1 rfl (lv_room (Nat.le_of_ble_eq_true rfl)) dL_refused_416 ⟨Nat.le_of_ble_eq_true rfl, Nat.le_of_ble_eq_true rfl⟩ (fun r9 o9 HZ locsZ hp hO hS hsz9 hfr9 => ?_)
    obtain ⟨rfl, rfl⟩ := hp
    refine lv_iconst (v := (-1)) hx hb dL_refused_419 (by decide) ?_
    refine lv_icmp_ne (tgt := 490) hx hb dL_refused_420 (by decide) (fun c9 => absurd c9 (by decide)) (fun _ => ?_)
    refine lv_aload_n hx hb dL_refused_423 rfl (lv_at hl 4 rfl) ?_
    refine lv_iconst (v := nI 1) hx hb dL_refused_424 (by decide) ?_
    refine lv_bipush (v := nI 6) hx hb dL_refused_425 (by decide) ?_
    refine o_call (o := (X, h9, len, Ch)) (As := [.int (nI 1), .int (nI 6)]) (rest := []) hF (U_fretInfo_i l E tm tl D fs (X, h9, len, Ch) xb (nI 1) (nI 6) (fun h => absurd h.2 (by decide +kernel))) (cwV 2 hts gL_refused_X6_fretInfo rfl rfl rfl (by decide +kernel) ⟨Nat.le_of_ble_eq_true rfl, Nat.le_of_ble_eq_true rfl⟩) hG hZ (fun _ h9 => h9) hO hS rfl hl.1 rfl (lv_room (Nat.le_of_ble_eq_true rfl)) dL_refused_427 ⟨Nat.le_of_ble_eq_true rfl, Nat.le_of_ble_eq_true rfl⟩ (fun r9 o9 HZ locsZ hp hO hS hsz9 hfr9 => ?_)
    obtain ⟨rfl, rfl⟩ := hp
    refine lv_iconst (v := (-1)) hx hb dL_refused_430 (by decide) ?_
    refine lv_icmp_ne (tgt := 490) hx hb dL_refused_431 (by decide) (fun c9 => absurd c9 (by decide)) (fun _ => ?_)
    refine lv_aload_n hx hb dL_refused_434 rfl (lv_at hl 4 rfl) ?_
    refine lv_iconst (v := nI 1) hx hb dL_refused_435 (by decide) ?_
    refine lv_iconst (v := (-1)) hx hb dL_refused_436 (by decide) ?_
    refine o_call (o := (X, h9, len, Ch)) (As := [.int (nI 1), .int (-1)]) (rest := []) hF (U_fretInfo_i l E tm tl D fs (X, h9, len, Ch) xb (nI 1) (-1) (fun h => absurd h.2 (by decide +kernel))) (cwV 2 hts gL_refused_X6_fretInfo rfl rfl rfl (by decide +kernel) ⟨Nat.le_of_ble_eq_true rfl, Nat.le_of_ble_eq_true rfl⟩) hG hZ (fun _ h9 => h9) hO hS rfl hl.1 rfl (lv_room (Nat.le_of_ble_eq_true rfl)) dL_refused_437 ⟨Nat.le_of_ble_eq_true rfl, Nat.le_of_ble_eq_true rfl⟩ (fun r9 o9 HZ locsZ hp hO hS hsz9 hfr9 => ?_)
    obtain ⟨rfl, rfl⟩ := hp
    refine lv_iconst (v := (-1)) hx hb dL_refused_440 (by decide) ?_
    refine lv_icmp_ne (tgt := 490) hx hb dL_refused_441 (by decide) (fun c9 => absurd c9 (by decide)) (fun _ => ?_)
    refine lv_aload_n hx hb dL_refused_444 rfl (lv_at hl 4 rfl) ?_
    refine lv_aload_n hx hb dL_refused_445 rfl (lv_at hl 4 rfl) ?_
    refine lv_iload_n hx hb dL_refused_446 rfl (lv_at hl 2 rfl) ?_
    refine lv_iconst (v := nI 0) hx hb dL_refused_447 (by decide) ?_
    refine o_call (o := (X, h9, len, Ch)) (As := [.int (nI (X 13 0)), .int (nI 0)]) (rest := [.ref fs]) hF (U_fretInfo_y l E tm tl D fs (X, h9, len, Ch) xb (X 13 0) 0 (by omega) (Nat.le_refl _) (by omega)) (cwV 2 hts gL_refused_X6_fretInfo rfl rfl rfl (by decide +kernel) ⟨Nat.le_of_ble_eq_true rfl, Nat.le_of_ble_eq_true rfl⟩) hG hZ (fun _ h9 => h9) hO hS rfl hl.1 rfl (lv_room (Nat.le_of_ble_eq_true rfl)) dL_refused_448 ⟨Nat.le_of_ble_eq_true rfl, Nat.le_of_ble_eq_true rfl⟩ (fun r9 o9 HZ locsZ hp hO hS hsz9 hfr9 => ?_)
    obtain ⟨er, rfl⟩ := hp
    obtain rfl : r9 = nI (X 0 (X 13 0 - 1)) := by rw [er]; unfold fiX atN; rw [if_pos rfl, if_neg (by omega)]
    refine lv_iconst (v := nI 0) hx hb dL_refused_451 (by decide) ?_
    have hq1 := hp1 (X 13 0 - 1) (by omega)
    have hq2 := xb.2.1 (X 13 0 - 1) (by omega)
    refine o_call (o := (X, h9, len, Ch)) (As := [.int (nI (X 0 (X 13 0 - 1))), .int (nI 0)]) (rest := []) hF (U_fret_p l E tm tl D fs (X, h9, len, Ch) xb (X 0 (X 13 0 - 1)) 0 hq1 hq2 (by omega) ⟨X 13 0 - 1, by show X 13 0 - 1 < X 13 0; omega, rfl⟩) (cwV 2 hts gL_refused_X6_fret rfl rfl rfl (by decide +kernel) ⟨Nat.le_of_ble_eq_true rfl, Nat.le_of_ble_eq_true rfl⟩) hG hZ (fun _ h9 => h9) hO hS rfl hl.1 rfl (lv_room (Nat.le_of_ble_eq_true rfl)) dL_refused_452 ⟨Nat.le_of_ble_eq_true rfl, Nat.le_of_ble_eq_true rfl⟩ (fun r9 o9 HZ locsZ hp hO hS hsz9 hfr9 => ?_)
    obtain ⟨rfl, rfl⟩ := hp
    refine lv_bipush (v := (-2)) hx hb dL_refused_455 (by decide) ?_
    refine lv_icmp_ne (tgt := 490) hx hb dL_refused_457 (by decide) (fun c9 => absurd c9 (by decide)) (fun _ => ?_)
    refine lv_aload_n hx hb dL_refused_460 rfl (lv_at hl 4 rfl) ?_
    refine lv_iconst (v := nI 1) hx hb dL_refused_461 (by decide) ?_
    refine lv_iconst (v := nI 1) hx hb dL_refused_462 (by decide) ?_
    refine o_call (o := (X, h9, len, Ch)) (As := [.int (nI 1), .int (nI 1)]) (rest := []) hF (U_fretInfo_y l E tm tl D fs (X, h9, len, Ch) xb 1 1 (by omega) (by show 1 ≤ X 13 0; omega) (by omega)) (cwV 2 hts gL_refused_X6_fretInfo rfl rfl rfl (by decide +kernel) ⟨Nat.le_of_ble_eq_true rfl, Nat.le_of_ble_eq_true rfl⟩) hG hZ (fun _ h9 => h9) hO hS rfl hl.1 rfl (lv_room (Nat.le_of_ble_eq_true rfl)) dL_refused_463 ⟨Nat.le_of_ble_eq_true rfl, Nat.le_of_ble_eq_true rfl⟩ (fun r9 o9 HZ locsZ hp hO hS hsz9 hfr9 => ?_)
    obtain ⟨er, rfl⟩ := hp
    obtain rfl : r9 = nI (X 1 0) := er
    have hh2 := xb.2.2.1 0 (by omega)
    refine lv_sipush (v := nI 2000) hx hb dL_refused_466 (by decide) ?_
    refine z_icmp_ge (tgt := 492) hx hb dL_refused_469 (by decide) (by omega) (by omega) (fun c2 => ?_) (fun c2 => ?_)
    · -- highest
      have hl := lv_sub hl [4, 3, 2] rfl
      exact T _ _ _ hO hS hl
    · -- not highest
      refine lv_aload_n hx hb dL_refused_472 rfl (lv_at hl 4 rfl) ?_
      refine lv_iconst (v := nI 1) hx hb dL_refused_473 (by decide) ?_
      refine lv_aload_n hx hb dL_refused_474 rfl (lv_at hl 4 rfl) ?_
      refine lv_iconst (v := nI 1) hx hb dL_refused_475 (by decide) ?_
      refine lv_iconst (v := nI 1) hx hb dL_refused_476 (by decide) ?_
      refine o_call (o := (X, h9, len, Ch)) (As := [.int (nI 1), .int (nI 1)]) (rest := [.int (nI 1), .ref fs]) hF (U_fretInfo_y l E tm tl D fs (X, h9, len, Ch) xb 1 1 (by omega) (by show 1 ≤ X 13 0; omega) (by omega)) (cwV 2 hts gL_refused_X6_fretInfo rfl rfl rfl (by decide +kernel) ⟨Nat.le_of_ble_eq_true rfl, Nat.le_of_ble_eq_true rfl⟩) hG hZ (fun _ h9 => h9) hO hS rfl hl.1 rfl (lv_room (Nat.le_of_ble_eq_true rfl)) dL_refused_477 ⟨Nat.le_of_ble_eq_true rfl, Nat.le_of_ble_eq_true rfl⟩ (fun r9 o9 HZ locsZ hp hO hS hsz9 hfr9 => ?_)
      obtain ⟨er, rfl⟩ := hp
      obtain rfl : r9 = nI (X 1 0) := er
      refine lv_iconst (v := nI 1) hx hb dL_refused_480 (by decide) ?_
      refine z_iadd (a := X 1 0) (b := 1) hx hb dL_refused_481 ?_
      refine o_call (o := (X, h9, len, Ch)) (As := [.int (nI 1), .int (nI ((X 1 0) + 1))]) (rest := []) hF (U_level_p l E tm tl D fs (X, h9, len, Ch) xb 1 (X 1 0 + 1) (by omega) (by show 1 ≤ X 13 0; omega) (by omega) (by show X 1 0 < X 1 0 + 1; omega)) (cwV 2 hts gL_refused_X6_level rfl rfl rfl (by decide +kernel) ⟨Nat.le_of_ble_eq_true rfl, Nat.le_of_ble_eq_true rfl⟩) hG hZ (fun _ h9 => h9) hO hS rfl hl.1 rfl (lv_room (Nat.le_of_ble_eq_true rfl)) dL_refused_482 ⟨Nat.le_of_ble_eq_true rfl, Nat.le_of_ble_eq_true rfl⟩ (fun r9 o9 HZ locsZ hp hO hS hsz9 hfr9 => ?_)
      obtain ⟨rfl, rfl⟩ := hp
      refine lv_bipush (v := (-2)) hx hb dL_refused_485 (by decide) ?_
      refine lv_icmp_eq (tgt := 492) hx hb dL_refused_487 (by decide) (fun _ => ?_) (fun c9 => absurd c9 (by decide))
      have hl := lv_sub hl [4, 3, 2] rfl
      exact T _ _ _ hO hS hl
