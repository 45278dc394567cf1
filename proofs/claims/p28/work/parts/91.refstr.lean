/-! ===== what is refused ===== -/
theorem nF1 {n : Nat} (hn : n ≤ 12) : ¬ (nI 1 ≤ nI (n + 1) ∧ nI (n + 1) ≤ nI n) := fun h => by
  have := (nI_leI (by omega) (by omega)).mp h.2
  omega
theorem nF0 {n : Nat} (hn : n ≤ 12) : ¬ (nI 0 ≤ nI (n + 1) ∧ nI (n + 1) ≤ nI n) := fun h => by
  have := (nI_leI (by omega) (by omega)).mp h.2
  omega
set_option maxHeartbeats 8000000 in
set_option maxRecDepth 100000 in
theorem c_L_refusesStrings (l : Launch) (E : zE) (tm tl : Nat) (D : Nat → Prop) (fs : Nat) (o : oS) (xb : XB o.1) : oM l yL_refusesStrings wsL_refusesStrings ({ frames := 8, cells := 0, slots := 0, locals := 184 }) E tm tl D fs [.ref fs] o (fun r o9 => r = nI 1 ∧ o9 = o) := by
  refine oM.start (own := RL) rfl (by decide +kernel) rfl (Nat.le_of_ble_eq_true rfl) (fun v o9 h => by obtain ⟨rfl, -⟩ := h; rfl) ?_
  intro pZ eZ sZ mZ argsZ belowZ methZ cZ QZ hF hret hG hZ HZ locsZ hO hS ls hl
  obtain ⟨hx, hb, hml, hown, hts⟩ := id hF
  obtain ⟨X, h9, len, Ch⟩ := o
  have xb : XB X := xb
  have hl : lv_has ls 5 [(0, .ref fs)] := hl
  refine lv_iconst (v := nI 0) hx hb dL_refusesStrings_0 (by decide) ?_
  refine lv_istore_n (lv' := [(1, .int (nI 0)), (0, .ref fs)]) hx hb dL_refusesStrings_1 rfl hl (by decide) rfl (fun ls hl => ?_)
  refine lv_iload_n hx hb dL_refusesStrings_2 rfl (lv_at hl 0 rfl) ?_
  refine lv_iconst (v := nI 2) hx hb dL_refusesStrings_3 (by decide) ?_
  refine lv_icmp_ge (tgt := 317) hx hb dL_refusesStrings_4 (by decide) (fun c9 => absurd c9 (by decide)) (fun _ => ?_)
  refine lv_iload_n hx hb dL_refusesStrings_7 rfl (lv_at hl 0 rfl) ?_
  refine lv_if_ne (tgt := 15) hx hb dL_refusesStrings_8 (by decide) (fun c9 => absurd c9 (by decide)) (fun _ => ?_)
  refine lv_iconst (v := nI 4) hx hb dL_refusesStrings_11 (by decide) ?_
  refine lv_goto (tgt := 16) hx hb dL_refusesStrings_12 (by decide) ?_
  refine lv_istore_n (lv' := [(2, .int (nI 4)), (1, .int (nI 0)), (0, .ref fs)]) hx hb dL_refusesStrings_16 rfl hl (by decide) rfl (fun ls hl => ?_)
  refine lv_aload_n hx hb dL_refusesStrings_17 rfl (lv_at hl 2 rfl) ?_
  refine lv_iload_n hx hb dL_refusesStrings_18 rfl (lv_at hl 0 rfl) ?_
  refine lv_sipush (v := nI 1000) hx hb dL_refusesStrings_19 (by decide) ?_
  refine o_call (o := (X, h9, len, Ch)) (As := [.int (nI 4), .int (nI 1000)]) (rest := []) hF (U_tune_i l E tm tl D fs (X, h9, len, Ch) (nI 4) (nI 1000) (fun h => absurd h.1 (by decide +kernel))) (cwV 2 hts gL_refusesStrings_X6_tune rfl rfl rfl (by decide +kernel) ⟨Nat.le_of_ble_eq_true rfl, Nat.le_of_ble_eq_true rfl⟩) hG hZ (fun _ h9 => h9) hO hS rfl hl.1 rfl (lv_room (Nat.le_of_ble_eq_true rfl)) dL_refusesStrings_22 ⟨Nat.le_of_ble_eq_true rfl, Nat.le_of_ble_eq_true rfl⟩ (fun r9 o9 HZ locsZ hp hO hS hsz9 hfr9 => ?_)
  obtain ⟨rfl, rfl⟩ := hp
  refine lv_iconst (v := (-1)) hx hb dL_refusesStrings_25 (by decide) ?_
  refine lv_icmp_ne (tgt := 174) hx hb dL_refusesStrings_26 (by decide) (fun c9 => absurd c9 (by decide)) (fun _ => ?_)
  refine lv_aload_n hx hb dL_refusesStrings_29 rfl (lv_at hl 2 rfl) ?_
  refine lv_iload_n hx hb dL_refusesStrings_30 rfl (lv_at hl 0 rfl) ?_
  refine lv_iconst (v := nI 0) hx hb dL_refusesStrings_31 (by decide) ?_
  refine o_call (o := (X, h9, len, Ch)) (As := [.int (nI 4), .int (nI 0)]) (rest := []) hF (U_press_i l E tm tl D fs (X, h9, len, Ch) xb (nI 4) (nI 0) (fun h => absurd h.1 (by decide +kernel))) (cwV 2 hts gL_refusesStrings_X6_press rfl rfl rfl (by decide +kernel) ⟨Nat.le_of_ble_eq_true rfl, Nat.le_of_ble_eq_true rfl⟩) hG hZ (fun _ h9 => h9) hO hS rfl hl.1 rfl (lv_room (Nat.le_of_ble_eq_true rfl)) dL_refusesStrings_32 ⟨Nat.le_of_ble_eq_true rfl, Nat.le_of_ble_eq_true rfl⟩ (fun r9 o9 HZ locsZ hp hO hS hsz9 hfr9 => ?_)
  obtain ⟨rfl, rfl⟩ := hp
  refine lv_iconst (v := (-1)) hx hb dL_refusesStrings_35 (by decide) ?_
  refine lv_icmp_ne (tgt := 174) hx hb dL_refusesStrings_36 (by decide) (fun c9 => absurd c9 (by decide)) (fun _ => ?_)
  refine lv_aload_n hx hb dL_refusesStrings_39 rfl (lv_at hl 2 rfl) ?_
  refine lv_iload_n hx hb dL_refusesStrings_40 rfl (lv_at hl 0 rfl) ?_
  refine lv_iconst (v := nI 0) hx hb dL_refusesStrings_41 (by decide) ?_
  refine o_call (o := (X, h9, len, Ch)) (As := [.int (nI 4), .int (nI 0)]) (rest := []) hF (U_touch_i l E tm tl D fs (X, h9, len, Ch) (nI 4) (nI 0) (fun h => absurd h.1 (by decide +kernel))) (cwV 2 hts gL_refusesStrings_X6_touch rfl rfl rfl (by decide +kernel) ⟨Nat.le_of_ble_eq_true rfl, Nat.le_of_ble_eq_true rfl⟩) hG hZ (fun _ h9 => h9) hO hS rfl hl.1 rfl (lv_room (Nat.le_of_ble_eq_true rfl)) dL_refusesStrings_42 ⟨Nat.le_of_ble_eq_true rfl, Nat.le_of_ble_eq_true rfl⟩ (fun r9 o9 HZ locsZ hp hO hS hsz9 hfr9 => ?_)
  obtain ⟨rfl, rfl⟩ := hp
  refine lv_iconst (v := (-1)) hx hb dL_refusesStrings_45 (by decide) ?_
  refine lv_icmp_ne (tgt := 174) hx hb dL_refusesStrings_46 (by decide) (fun c9 => absurd c9 (by decide)) (fun _ => ?_)
  refine lv_aload_n hx hb dL_refusesStrings_49 rfl (lv_at hl 2 rfl) ?_
  refine lv_iload_n hx hb dL_refusesStrings_50 rfl (lv_at hl 0 rfl) ?_
  refine lv_sipush (v := nI 2519) hx hb dL_refusesStrings_51 (by decide) ?_
  refine lv_iconst (v := nI 1) hx hb dL_refusesStrings_54 (by decide) ?_
  refine o_call (o := (X, h9, len, Ch)) (As := [.int (nI 4), .int (nI 2519), .int (nI 1)]) (rest := []) hF (U_pluck_i l E tm tl D fs (X, h9, len, Ch) xb (nI 4) (nI 2519) (nI 1) (fun h => absurd h.1 (by decide +kernel))) (cwV 3 hts gL_refusesStrings_X6_pluck rfl rfl rfl (by decide +kernel) ⟨Nat.le_of_ble_eq_true rfl, Nat.le_of_ble_eq_true rfl⟩) hG hZ (fun _ h9 => h9) hO hS rfl hl.1 rfl (lv_room (Nat.le_of_ble_eq_true rfl)) dL_refusesStrings_55 ⟨Nat.le_of_ble_eq_true rfl, Nat.le_of_ble_eq_true rfl⟩ (fun r9 o9 HZ locsZ hp hO hS hsz9 hfr9 => ?_)
  obtain ⟨rfl, rfl⟩ := hp
  refine lv_iconst (v := (-1)) hx hb dL_refusesStrings_58 (by decide) ?_
  refine lv_icmp_ne (tgt := 174) hx hb dL_refusesStrings_59 (by decide) (fun c9 => absurd c9 (by decide)) (fun _ => ?_)
  refine lv_aload_n hx hb dL_refusesStrings_62 rfl (lv_at hl 2 rfl) ?_
  refine lv_iload_n hx hb dL_refusesStrings_63 rfl (lv_at hl 0 rfl) ?_
  refine o_call (o := (X, h9, len, Ch)) (As := [.int (nI 4)]) (rest := []) hF (U_damp_i l E tm tl D fs (X, h9, len, Ch) xb (nI 4) (fun h => absurd h (by decide +kernel))) (cwV 1 hts gL_refusesStrings_X6_damp rfl rfl rfl (by decide +kernel) ⟨Nat.le_of_ble_eq_true rfl, Nat.le_of_ble_eq_true rfl⟩) hG hZ (fun _ h9 => h9) hO hS rfl hl.1 rfl (lv_room (Nat.le_of_ble_eq_true rfl)) dL_refusesStrings_64 ⟨Nat.le_of_ble_eq_true rfl, Nat.le_of_ble_eq_true rfl⟩ (fun r9 o9 HZ locsZ hp hO hS hsz9 hfr9 => ?_)
  obtain ⟨rfl, rfl⟩ := hp
  refine lv_iconst (v := (-1)) hx hb dL_refusesStrings_67 (by decide) ?_
  refine lv_icmp_ne (tgt := 174) hx hb dL_refusesStrings_68 (by decide) (fun c9 => absurd c9 (by decide)) (fun _ => ?_)
  refine lv_aload_n hx hb dL_refusesStrings_71 rfl (lv_at hl 2 rfl) ?_
  refine lv_iload_n hx hb dL_refusesStrings_72 rfl (lv_at hl 0 rfl) ?_
  refine lv_iconst (v := nI 0) hx hb dL_refusesStrings_73 (by decide) ?_
  refine o_call (o := (X, h9, len, Ch)) (As := [.int (nI 4), .int (nI 0)]) (rest := []) hF (U_stringInfo_i l E tm tl D fs (X, h9, len, Ch) xb (nI 4) (nI 0) (fun h => absurd h.1 (by decide +kernel))) (cwV 2 hts gL_refusesStrings_X6_stringInfo rfl rfl rfl (by decide +kernel) ⟨Nat.le_of_ble_eq_true rfl, Nat.le_of_ble_eq_true rfl⟩) hG hZ (fun _ h9 => h9) hO hS rfl hl.1 rfl (lv_room (Nat.le_of_ble_eq_true rfl)) dL_refusesStrings_74 ⟨Nat.le_of_ble_eq_true rfl, Nat.le_of_ble_eq_true rfl⟩ (fun r9 o9 HZ locsZ hp hO hS hsz9 hfr9 => ?_)
  obtain ⟨rfl, rfl⟩ := hp
  refine lv_iconst (v := (-1)) hx hb dL_refusesStrings_77 (by decide) ?_
  refine lv_icmp_ne (tgt := 174) hx hb dL_refusesStrings_78 (by decide) (fun c9 => absurd c9 (by decide)) (fun _ => ?_)
  refine lv_aload_n hx hb dL_refusesStrings_81 rfl (lv_at hl 2 rfl) ?_
  refine lv_iload_n hx hb dL_refusesStrings_82 rfl (lv_at hl 0 rfl) ?_
  refine lv_iconst (v := nI 1) hx hb dL_refusesStrings_83 (by decide) ?_
  refine lv_iconst (v := nI 0) hx hb dL_refusesStrings_84 (by decide) ?_
  refine o_call (o := (X, h9, len, Ch)) (As := [.int (nI 4), .int (nI 1), .int (nI 0)]) (rest := []) hF (U_modeInfo_i l E tm tl D fs (X, h9, len, Ch) xb (nI 4) (nI 1) (nI 0) (fun h => absurd h.1 (by decide +kernel))) (cwV 3 hts gL_refusesStrings_X6_modeInfo rfl rfl rfl (by decide +kernel) ⟨Nat.le_of_ble_eq_true rfl, Nat.le_of_ble_eq_true rfl⟩) hG hZ (fun _ h9 => h9) hO hS rfl hl.1 rfl (lv_room (Nat.le_of_ble_eq_true rfl)) dL_refusesStrings_85 ⟨Nat.le_of_ble_eq_true rfl, Nat.le_of_ble_eq_true rfl⟩ (fun r9 o9 HZ locsZ hp hO hS hsz9 hfr9 => ?_)
  obtain ⟨rfl, rfl⟩ := hp
  refine lv_iconst (v := (-1)) hx hb dL_refusesStrings_88 (by decide) ?_
  refine lv_icmp_ne (tgt := 174) hx hb dL_refusesStrings_89 (by decide) (fun c9 => absurd c9 (by decide)) (fun _ => ?_)
  refine lv_aload_n hx hb dL_refusesStrings_92 rfl (lv_at hl 2 rfl) ?_
  refine lv_iload_n hx hb dL_refusesStrings_93 rfl (lv_at hl 0 rfl) ?_
  refine lv_iconst (v := nI 1) hx hb dL_refusesStrings_94 (by decide) ?_
  refine lv_sipush (v := nI 2519) hx hb dL_refusesStrings_95 (by decide) ?_
  refine o_call (o := (X, h9, len, Ch)) (As := [.int (nI 4), .int (nI 1), .int (nI 2519)]) (rest := []) hF (U_node_i l E tm tl D fs (X, h9, len, Ch) xb (nI 4) (nI 1) (nI 2519) (fun h => absurd h.1 (by decide +kernel))) (cwV 3 hts gL_refusesStrings_X6_node rfl rfl rfl (by decide +kernel) ⟨Nat.le_of_ble_eq_true rfl, Nat.le_of_ble_eq_true rfl⟩) hG hZ (fun _ h9 => h9) hO hS rfl hl.1 rfl (lv_room (Nat.le_of_ble_eq_true rfl)) dL_refusesStrings_98 ⟨Nat.le_of_ble_eq_true rfl, Nat.le_of_ble_eq_true rfl⟩ (fun r9 o9 HZ locsZ hp hO hS hsz9 hfr9 => ?_)
  obtain ⟨rfl, rfl⟩ := hp
  refine lv_iconst (v := (-1)) hx hb dL_refusesStrings_101 (by decide) ?_
  refine lv_icmp_ne (tgt := 174) hx hb dL_refusesStrings_102 (by decide) (fun c9 => absurd c9 (by decide)) (fun _ => ?_)
  refine lv_aload_n hx hb dL_refusesStrings_105 rfl (lv_at hl 2 rfl) ?_
  refine lv_iload_n hx hb dL_refusesStrings_106 rfl (lv_at hl 0 rfl) ?_
  refine lv_iconst (v := nI 1) hx hb dL_refusesStrings_107 (by decide) ?_
  refine lv_sipush (v := nI 2519) hx hb dL_refusesStrings_108 (by decide) ?_
  refine o_call (o := (X, h9, len, Ch)) (As := [.int (nI 4), .int (nI 1), .int (nI 2519)]) (rest := []) hF (U_nodeAgain_i l E tm tl D fs (X, h9, len, Ch) xb (nI 4) (nI 1) (nI 2519) (fun h => absurd h.1 (by decide +kernel))) (cwV 3 hts gL_refusesStrings_X6_nodeAgain rfl rfl rfl (by decide +kernel) ⟨Nat.le_of_ble_eq_true rfl, Nat.le_of_ble_eq_true rfl⟩) hG hZ (fun _ h9 => h9) hO hS rfl hl.1 rfl (lv_room (Nat.le_of_ble_eq_true rfl)) dL_refusesStrings_111 ⟨Nat.le_of_ble_eq_true rfl, Nat.le_of_ble_eq_true rfl⟩ (fun r9 o9 HZ locsZ hp hO hS hsz9 hfr9 => ?_)
  obtain ⟨rfl, rfl⟩ := hp
  refine lv_iconst (v := (-1)) hx hb dL_refusesStrings_114 (by decide) ?_
  refine lv_icmp_ne (tgt := 174) hx hb dL_refusesStrings_115 (by decide) (fun c9 => absurd c9 (by decide)) (fun _ => ?_)
  refine lv_aload_n hx hb dL_refusesStrings_118 rfl (lv_at hl 2 rfl) ?_
  refine lv_iload_n hx hb dL_refusesStrings_119 rfl (lv_at hl 0 rfl) ?_
  refine lv_iconst (v := nI 1) hx hb dL_refusesStrings_120 (by decide) ?_
  refine o_call (o := (X, h9, len, Ch)) (As := [.int (nI 4), .int (nI 1)]) (rest := []) hF (U_ticksTo_i l E tm tl D fs (X, h9, len, Ch) xb (nI 4) (nI 1) (fun h => absurd h.1 (by decide +kernel))) (cwV 2 hts gL_refusesStrings_X6_ticksTo rfl rfl rfl (by decide +kernel) ⟨Nat.le_of_ble_eq_true rfl, Nat.le_of_ble_eq_true rfl⟩) hG hZ (fun _ h9 => h9) hO hS rfl hl.1 rfl (lv_room (Nat.le_of_ble_eq_true rfl)) dL_refusesStrings_121 ⟨Nat.le_of_ble_eq_true rfl, Nat.le_of_ble_eq_true rfl⟩ (fun r9 o9 HZ locsZ hp hO hS hsz9 hfr9 => ?_)
  obtain ⟨rfl, rfl⟩ := hp
  refine lv_iconst (v := (-1)) hx hb dL_refusesStrings_124 (by decide) ?_
  refine lv_icmp_ne (tgt := 174) hx hb dL_refusesStrings_125 (by decide) (fun c9 => absurd c9 (by decide)) (fun _ => ?_)
  refine lv_aload_n hx hb dL_refusesStrings_128 rfl (lv_at hl 2 rfl) ?_
  refine lv_iload_n hx hb dL_refusesStrings_129 rfl (lv_at hl 0 rfl) ?_
  refine lv_iconst (v := nI 1) hx hb dL_refusesStrings_130 (by decide) ?_
  refine lv_iconst (v := nI 0) hx hb dL_refusesStrings_131 (by decide) ?_
  refine lv_iconst (v := nI 1) hx hb dL_refusesStrings_132 (by decide) ?_
  refine o_call (o := (X, h9, len, Ch)) (As := [.int (nI 4), .int (nI 1), .int (nI 0), .int (nI 1)]) (rest := []) hF (U_beat_i l E tm tl D fs (X, h9, len, Ch) xb (nI 4) (nI 1) (nI 0) (nI 1) (fun h => absurd h.1.1 (by decide +kernel))) (cwV 4 hts gL_refusesStrings_X6_beat rfl rfl rfl (by decide +kernel) ⟨Nat.le_of_ble_eq_true rfl, Nat.le_of_ble_eq_true rfl⟩) hG hZ (fun _ h9 => h9) hO hS rfl hl.1 rfl (lv_room (Nat.le_of_ble_eq_true rfl)) dL_refusesStrings_133 ⟨Nat.le_of_ble_eq_true rfl, Nat.le_of_ble_eq_true rfl⟩ (fun r9 o9 HZ locsZ hp hO hS hsz9 hfr9 => ?_)
  obtain ⟨rfl, rfl⟩ := hp
  refine lv_iconst (v := (-1)) hx hb dL_refusesStrings_136 (by decide) ?_
  refine lv_icmp_ne (tgt := 174) hx hb dL_refusesStrings_137 (by decide) (fun c9 => absurd c9 (by decide)) (fun _ => ?_)
  refine lv_aload_n hx hb dL_refusesStrings_140 rfl (lv_at hl 2 rfl) ?_
  refine lv_iconst (v := nI 0) hx hb dL_refusesStrings_141 (by decide) ?_
  refine lv_iconst (v := nI 1) hx hb dL_refusesStrings_142 (by decide) ?_
  refine lv_iload_n hx hb dL_refusesStrings_143 rfl (lv_at hl 0 rfl) ?_
  refine lv_iconst (v := nI 1) hx hb dL_refusesStrings_144 (by decide) ?_
  refine o_call (o := (X, h9, len, Ch)) (As := [.int (nI 0), .int (nI 1), .int (nI 4), .int (nI 1)]) (rest := []) hF (U_beat_i l E tm tl D fs (X, h9, len, Ch) xb (nI 0) (nI 1) (nI 4) (nI 1) (fun h => absurd h.1.2.1 (by decide +kernel))) (cwV 4 hts gL_refusesStrings_X6_beat rfl rfl rfl (by decide +kernel) ⟨Nat.le_of_ble_eq_true rfl, Nat.le_of_ble_eq_true rfl⟩) hG hZ (fun _ h9 => h9) hO hS rfl hl.1 rfl (lv_room (Nat.le_of_ble_eq_true rfl)) dL_refusesStrings_145 ⟨Nat.le_of_ble_eq_true rfl, Nat.le_of_ble_eq_true rfl⟩ (fun r9 o9 HZ locsZ hp hO hS hsz9 hfr9 => ?_)
  obtain ⟨rfl, rfl⟩ := hp
  refine lv_iconst (v := (-1)) hx hb dL_refusesStrings_148 (by decide) ?_
  refine lv_icmp_ne (tgt := 174) hx hb dL_refusesStrings_149 (by decide) (fun c9 => absurd c9 (by decide)) (fun _ => ?_)
  refine lv_aload_n hx hb dL_refusesStrings_152 rfl (lv_at hl 2 rfl) ?_
  refine lv_iload_n hx hb dL_refusesStrings_153 rfl (lv_at hl 0 rfl) ?_
  refine lv_iconst (v := nI 0) hx hb dL_refusesStrings_154 (by decide) ?_
  refine lv_iconst (v := nI 0) hx hb dL_refusesStrings_155 (by decide) ?_
  refine o_call (o := (X, h9, len, Ch)) (As := [.int (nI 4), .int (nI 0), .int (nI 0)]) (rest := []) hF (U_slowest_i l E tm tl D fs (X, h9, len, Ch) xb (nI 4) (nI 0) (nI 0) (fun h => absurd h.1.1 (by decide +kernel))) (cwV 3 hts gL_refusesStrings_X6_slowest rfl rfl rfl (by decide +kernel) ⟨Nat.le_of_ble_eq_true rfl, Nat.le_of_ble_eq_true rfl⟩) hG hZ (fun _ h9 => h9) hO hS rfl hl.1 rfl (lv_room (Nat.le_of_ble_eq_true rfl)) dL_refusesStrings_156 ⟨Nat.le_of_ble_eq_true rfl, Nat.le_of_ble_eq_true rfl⟩ (fun r9 o9 HZ locsZ hp hO hS hsz9 hfr9 => ?_)
  obtain ⟨rfl, rfl⟩ := hp
  refine lv_iconst (v := (-1)) hx hb dL_refusesStrings_159 (by decide) ?_
  refine lv_icmp_ne (tgt := 174) hx hb dL_refusesStrings_160 (by decide) (fun c9 => absurd c9 (by decide)) (fun _ => ?_)
  refine lv_aload_n hx hb dL_refusesStrings_163 rfl (lv_at hl 2 rfl) ?_
  refine lv_iconst (v := nI 0) hx hb dL_refusesStrings_164 (by decide) ?_
  refine lv_iload_n hx hb dL_refusesStrings_165 rfl (lv_at hl 0 rfl) ?_
  refine lv_iconst (v := nI 0) hx hb dL_refusesStrings_166 (by decide) ?_
  refine o_call (o := (X, h9, len, Ch)) (As := [.int (nI 0), .int (nI 4), .int (nI 0)]) (rest := []) hF (U_slowest_i l E tm tl D fs (X, h9, len, Ch) xb (nI 0) (nI 4) (nI 0) (fun h => absurd h.1.2.1 (by decide +kernel))) (cwV 3 hts gL_refusesStrings_X6_slowest rfl rfl rfl (by decide +kernel) ⟨Nat.le_of_ble_eq_true rfl, Nat.le_of_ble_eq_true rfl⟩) hG hZ (fun _ h9 => h9) hO hS rfl hl.1 rfl (lv_room (Nat.le_of_ble_eq_true rfl)) dL_refusesStrings_167 ⟨Nat.le_of_ble_eq_true rfl, Nat.le_of_ble_eq_true rfl⟩ (fun r9 o9 HZ locsZ hp hO hS hsz9 hfr9 => ?_)
  obtain ⟨rfl, rfl⟩ := hp
  refine lv_iconst (v := (-1)) hx hb dL_refusesStrings_170 (by decide) ?_
  refine lv_icmp_eq (tgt := 176) hx hb dL_refusesStrings_171 (by decide) (fun _ => ?_) (fun c9 => absurd c9 (by decide))
  refine lv_iload_n hx hb dL_refusesStrings_176 rfl (lv_at hl 1 rfl) ?_
  refine lv_if_ne (tgt := 185) hx hb dL_refusesStrings_177 (by decide) (fun c9 => absurd c9 (by decide)) (fun _ => ?_)
  refine lv_bipush (v := nI 13) hx hb dL_refusesStrings_180 (by decide) ?_
  refine lv_goto (tgt := 186) hx hb dL_refusesStrings_182 (by decide) ?_
  refine lv_istore_n (lv' := [(3, .int (nI 13)), (2, .int (nI 4)), (1, .int (nI 0)), (0, .ref fs)]) hx hb dL_refusesStrings_186 rfl hl (by decide) rfl (fun ls hl => ?_)
  refine lv_aload_n hx hb dL_refusesStrings_187 rfl (lv_at hl 3 rfl) ?_
  refine lv_iconst (v := nI 0) hx hb dL_refusesStrings_188 (by decide) ?_
  refine lv_iload_n hx hb dL_refusesStrings_189 rfl (lv_at hl 0 rfl) ?_
  refine lv_iconst (v := nI 0) hx hb dL_refusesStrings_190 (by decide) ?_
  refine o_call (o := (X, h9, len, Ch)) (As := [.int (nI 0), .int (nI 13), .int (nI 0)]) (rest := []) hF (U_modeInfo_i l E tm tl D fs (X, h9, len, Ch) xb (nI 0) (nI 13) (nI 0) (fun h => absurd h.2.1 (by decide +kernel))) (cwV 3 hts gL_refusesStrings_X6_modeInfo rfl rfl rfl (by decide +kernel) ⟨Nat.le_of_ble_eq_true rfl, Nat.le_of_ble_eq_true rfl⟩) hG hZ (fun _ h9 => h9) hO hS rfl hl.1 rfl (lv_room (Nat.le_of_ble_eq_true rfl)) dL_refusesStrings_191 ⟨Nat.le_of_ble_eq_true rfl, Nat.le_of_ble_eq_true rfl⟩ (fun r9 o9 HZ locsZ hp hO hS hsz9 hfr9 => ?_)
  obtain ⟨rfl, rfl⟩ := hp
  refine lv_iconst (v := (-1)) hx hb dL_refusesStrings_194 (by decide) ?_
  refine lv_icmp_ne (tgt := 258) hx hb dL_refusesStrings_195 (by decide) (fun c9 => absurd c9 (by decide)) (fun _ => ?_)
  refine lv_aload_n hx hb dL_refusesStrings_198 rfl (lv_at hl 3 rfl) ?_
  refine lv_iconst (v := nI 0) hx hb dL_refusesStrings_199 (by decide) ?_
  refine lv_iload_n hx hb dL_refusesStrings_200 rfl (lv_at hl 0 rfl) ?_
  refine lv_sipush (v := nI 2519) hx hb dL_refusesStrings_201 (by decide) ?_
  refine o_call (o := (X, h9, len, Ch)) (As := [.int (nI 0), .int (nI 13), .int (nI 2519)]) (rest := []) hF (U_node_i l E tm tl D fs (X, h9, len, Ch) xb (nI 0) (nI 13) (nI 2519) (fun h => absurd h.2.1 (by decide +kernel))) (cwV 3 hts gL_refusesStrings_X6_node rfl rfl rfl (by decide +kernel) ⟨Nat.le_of_ble_eq_true rfl, Nat.le_of_ble_eq_true rfl⟩) hG hZ (fun _ h9 => h9) hO hS rfl hl.1 rfl (lv_room (Nat.le_of_ble_eq_true rfl)) dL_refusesStrings_204 ⟨Nat.le_of_ble_eq_true rfl, Nat.le_of_ble_eq_true rfl⟩ (fun r9 o9 HZ locsZ hp hO hS hsz9 hfr9 => ?_)
  obtain ⟨rfl, rfl⟩ := hp
  refine lv_iconst (v := (-1)) hx hb dL_refusesStrings_207 (by decide) ?_
  refine lv_icmp_ne (tgt := 258) hx hb dL_refusesStrings_208 (by decide) (fun c9 => absurd c9 (by decide)) (fun _ => ?_)
  refine lv_aload_n hx hb dL_refusesStrings_211 rfl (lv_at hl 3 rfl) ?_
  refine lv_iconst (v := nI 0) hx hb dL_refusesStrings_212 (by decide) ?_
  refine lv_iload_n hx hb dL_refusesStrings_213 rfl (lv_at hl 0 rfl) ?_
  refine lv_sipush (v := nI 2519) hx hb dL_refusesStrings_214 (by decide) ?_
  refine o_call (o := (X, h9, len, Ch)) (As := [.int (nI 0), .int (nI 13), .int (nI 2519)]) (rest := []) hF (U_nodeAgain_i l E tm tl D fs (X, h9, len, Ch) xb (nI 0) (nI 13) (nI 2519) (fun h => absurd h.2.1 (by decide +kernel))) (cwV 3 hts gL_refusesStrings_X6_nodeAgain rfl rfl rfl (by decide +kernel) ⟨Nat.le_of_ble_eq_true rfl, Nat.le_of_ble_eq_true rfl⟩) hG hZ (fun _ h9 => h9) hO hS rfl hl.1 rfl (lv_room (Nat.le_of_ble_eq_true rfl)) dL_refusesStrings_217 ⟨Nat.le_of_ble_eq_true rfl, Nat.le_of_ble_eq_true rfl⟩ (fun r9 o9 HZ locsZ hp hO hS hsz9 hfr9 => ?_)
  obtain ⟨rfl, rfl⟩ := hp
  refine lv_iconst (v := (-1)) hx hb dL_refusesStrings_220 (by decide) ?_
  refine lv_icmp_ne (tgt := 258) hx hb dL_refusesStrings_221 (by decide) (fun c9 => absurd c9 (by decide)) (fun _ => ?_)
  refine lv_aload_n hx hb dL_refusesStrings_224 rfl (lv_at hl 3 rfl) ?_
  refine lv_iconst (v := nI 0) hx hb dL_refusesStrings_225 (by decide) ?_
  refine lv_iload_n hx hb dL_refusesStrings_226 rfl (lv_at hl 0 rfl) ?_
  refine o_call (o := (X, h9, len, Ch)) (As := [.int (nI 0), .int (nI 13)]) (rest := []) hF (U_ticksTo_i l E tm tl D fs (X, h9, len, Ch) xb (nI 0) (nI 13) (fun h => absurd h.2 (by decide +kernel))) (cwV 2 hts gL_refusesStrings_X6_ticksTo rfl rfl rfl (by decide +kernel) ⟨Nat.le_of_ble_eq_true rfl, Nat.le_of_ble_eq_true rfl⟩) hG hZ (fun _ h9 => h9) hO hS rfl hl.1 rfl (lv_room (Nat.le_of_ble_eq_true rfl)) dL_refusesStrings_227 ⟨Nat.le_of_ble_eq_true rfl, Nat.le_of_ble_eq_true rfl⟩ (fun r9 o9 HZ locsZ hp hO hS hsz9 hfr9 => ?_)
  obtain ⟨rfl, rfl⟩ := hp
  refine lv_iconst (v := (-1)) hx hb dL_refusesStrings_230 (by decide) ?_
  refine lv_icmp_ne (tgt := 258) hx hb dL_refusesStrings_231 (by decide) (fun c9 => absurd c9 (by decide)) (fun _ => ?_)
  refine lv_aload_n hx hb dL_refusesStrings_234 rfl (lv_at hl 3 rfl) ?_
  refine lv_iconst (v := nI 0) hx hb dL_refusesStrings_235 (by decide) ?_
  refine lv_iload_n hx hb dL_refusesStrings_236 rfl (lv_at hl 0 rfl) ?_
  refine lv_iconst (v := nI 1) hx hb dL_refusesStrings_237 (by decide) ?_
  refine lv_iconst (v := nI 1) hx hb dL_refusesStrings_238 (by decide) ?_
  refine o_call (o := (X, h9, len, Ch)) (As := [.int (nI 0), .int (nI 13), .int (nI 1), .int (nI 1)]) (rest := []) hF (U_beat_i l E tm tl D fs (X, h9, len, Ch) xb (nI 0) (nI 13) (nI 1) (nI 1) (fun h => absurd h.2.1 (by decide +kernel))) (cwV 4 hts gL_refusesStrings_X6_beat rfl rfl rfl (by decide +kernel) ⟨Nat.le_of_ble_eq_true rfl, Nat.le_of_ble_eq_true rfl⟩) hG hZ (fun _ h9 => h9) hO hS rfl hl.1 rfl (lv_room (Nat.le_of_ble_eq_true rfl)) dL_refusesStrings_239 ⟨Nat.le_of_ble_eq_true rfl, Nat.le_of_ble_eq_true rfl⟩ (fun r9 o9 HZ locsZ hp hO hS hsz9 hfr9 => ?_)
  obtain ⟨rfl, rfl⟩ := hp
  refine lv_iconst (v := (-1)) hx hb dL_refusesStrings_242 (by decide) ?_
  refine lv_icmp_ne (tgt := 258) hx hb dL_refusesStrings_243 (by decide) (fun c9 => absurd c9 (by decide)) (fun _ => ?_)
  refine lv_aload_n hx hb dL_refusesStrings_246 rfl (lv_at hl 3 rfl) ?_
  refine lv_iconst (v := nI 0) hx hb dL_refusesStrings_247 (by decide) ?_
  refine lv_iconst (v := nI 1) hx hb dL_refusesStrings_248 (by decide) ?_
  refine lv_iconst (v := nI 1) hx hb dL_refusesStrings_249 (by decide) ?_
  refine lv_iload_n hx hb dL_refusesStrings_250 rfl (lv_at hl 0 rfl) ?_
  refine o_call (o := (X, h9, len, Ch)) (As := [.int (nI 0), .int (nI 1), .int (nI 1), .int (nI 13)]) (rest := []) hF (U_beat_i l E tm tl D fs (X, h9, len, Ch) xb (nI 0) (nI 1) (nI 1) (nI 13) (fun h => absurd h.2.2 (by decide +kernel))) (cwV 4 hts gL_refusesStrings_X6_beat rfl rfl rfl (by decide +kernel) ⟨Nat.le_of_ble_eq_true rfl, Nat.le_of_ble_eq_true rfl⟩) hG hZ (fun _ h9 => h9) hO hS rfl hl.1 rfl (lv_room (Nat.le_of_ble_eq_true rfl)) dL_refusesStrings_251 ⟨Nat.le_of_ble_eq_true rfl, Nat.le_of_ble_eq_true rfl⟩ (fun r9 o9 HZ locsZ hp hO hS hsz9 hfr9 => ?_)
  obtain ⟨rfl, rfl⟩ := hp
  refine lv_iconst (v := (-1)) hx hb dL_refusesStrings_254 (by decide) ?_
  refine lv_icmp_eq (tgt := 260) hx hb dL_refusesStrings_255 (by decide) (fun _ => ?_) (fun c9 => absurd c9 (by decide))
  refine lv_iload_n hx hb dL_refusesStrings_260 rfl (lv_at hl 2 rfl) ?_
  refine lv_if_ne (tgt := 270) hx hb dL_refusesStrings_261 (by decide) (fun c9 => absurd c9 (by decide)) (fun _ => ?_)
  refine lv_sipush (v := nI 2520) hx hb dL_refusesStrings_264 (by decide) ?_
  refine lv_goto (tgt := 271) hx hb dL_refusesStrings_267 (by decide) ?_
  refine lv_istore (lv' := [(4, .int (nI 2520)), (3, .int (nI 13)), (2, .int (nI 4)), (1, .int (nI 0)), (0, .ref fs)]) hx hb dL_refusesStrings_271 hl (by decide) rfl (fun ls hl => ?_)
  refine lv_aload_n hx hb dL_refusesStrings_273 rfl (lv_at hl 4 rfl) ?_
  refine lv_iconst (v := nI 0) hx hb dL_refusesStrings_274 (by decide) ?_
  refine lv_iload hx hb dL_refusesStrings_275 (lv_at hl 0 rfl) ?_
  refine lv_iconst (v := nI 1) hx hb dL_refusesStrings_277 (by decide) ?_
  refine o_call (o := (X, h9, len, Ch)) (As := [.int (nI 0), .int (nI 2520), .int (nI 1)]) (rest := []) hF (U_pluck_i l E tm tl D fs (X, h9, len, Ch) xb (nI 0) (nI 2520) (nI 1) (fun h => absurd h.2.1 (by decide +kernel))) (cwV 3 hts gL_refusesStrings_X6_pluck rfl rfl rfl (by decide +kernel) ⟨Nat.le_of_ble_eq_true rfl, Nat.le_of_ble_eq_true rfl⟩) hG hZ (fun _ h9 => h9) hO hS rfl hl.1 rfl (lv_room (Nat.le_of_ble_eq_true rfl)) dL_refusesStrings_278 ⟨Nat.le_of_ble_eq_true rfl, Nat.le_of_ble_eq_true rfl⟩ (fun r9 o9 HZ locsZ hp hO hS hsz9 hfr9 => ?_)
  obtain ⟨rfl, rfl⟩ := hp
  refine lv_iconst (v := (-1)) hx hb dL_refusesStrings_281 (by decide) ?_
  refine lv_icmp_ne (tgt := 309) hx hb dL_refusesStrings_282 (by decide) (fun c9 => absurd c9 (by decide)) (fun _ => ?_)
  refine lv_aload_n hx hb dL_refusesStrings_285 rfl (lv_at hl 4 rfl) ?_
  refine lv_iconst (v := nI 0) hx hb dL_refusesStrings_286 (by decide) ?_
  refine lv_iconst (v := nI 1) hx hb dL_refusesStrings_287 (by decide) ?_
  refine lv_iload hx hb dL_refusesStrings_288 (lv_at hl 0 rfl) ?_
  refine o_call (o := (X, h9, len, Ch)) (As := [.int (nI 0), .int (nI 1), .int (nI 2520)]) (rest := []) hF (U_node_i l E tm tl D fs (X, h9, len, Ch) xb (nI 0) (nI 1) (nI 2520) (fun h => absurd h.2.2 (by decide +kernel))) (cwV 3 hts gL_refusesStrings_X6_node rfl rfl rfl (by decide +kernel) ⟨Nat.le_of_ble_eq_true rfl, Nat.le_of_ble_eq_true rfl⟩) hG hZ (fun _ h9 => h9) hO hS rfl hl.1 rfl (lv_room (Nat.le_of_ble_eq_true rfl)) dL_refusesStrings_290 ⟨Nat.le_of_ble_eq_true rfl, Nat.le_of_ble_eq_true rfl⟩ (fun r9 o9 HZ locsZ hp hO hS hsz9 hfr9 => ?_)
  obtain ⟨rfl, rfl⟩ := hp
  refine lv_iconst (v := (-1)) hx hb dL_refusesStrings_293 (by decide) ?_
  refine lv_icmp_ne (tgt := 309) hx hb dL_refusesStrings_294 (by decide) (fun c9 => absurd c9 (by decide)) (fun _ => ?_)
  refine lv_aload_n hx hb dL_refusesStrings_297 rfl (lv_at hl 4 rfl) ?_
  refine lv_iconst (v := nI 0) hx hb dL_refusesStrings_298 (by decide) ?_
  refine lv_iconst (v := nI 1) hx hb dL_refusesStrings_299 (by decide) ?_
  refine lv_iload hx hb dL_refusesStrings_300 (lv_at hl 0 rfl) ?_
  refine o_call (o := (X, h9, len, Ch)) (As := [.int (nI 0), .int (nI 1), .int (nI 2520)]) (rest := []) hF (U_nodeAgain_i l E tm tl D fs (X, h9, len, Ch) xb (nI 0) (nI 1) (nI 2520) (fun h => absurd h.2.2 (by decide +kernel))) (cwV 3 hts gL_refusesStrings_X6_nodeAgain rfl rfl rfl (by decide +kernel) ⟨Nat.le_of_ble_eq_true rfl, Nat.le_of_ble_eq_true rfl⟩) hG hZ (fun _ h9 => h9) hO hS rfl hl.1 rfl (lv_room (Nat.le_of_ble_eq_true rfl)) dL_refusesStrings_302 ⟨Nat.le_of_ble_eq_true rfl, Nat.le_of_ble_eq_true rfl⟩ (fun r9 o9 HZ locsZ hp hO hS hsz9 hfr9 => ?_)
  obtain ⟨rfl, rfl⟩ := hp
  refine lv_iconst (v := (-1)) hx hb dL_refusesStrings_305 (by decide) ?_
  refine lv_icmp_eq (tgt := 311) hx hb dL_refusesStrings_306 (by decide) (fun _ => ?_) (fun c9 => absurd c9 (by decide))
  refine z_iinc (k := 3) (d := 1) (lv' := [(1, .int (nI 1)), (4, .int (nI 2520)), (3, .int (nI 13)), (2, .int (nI 4)), (0, .ref fs)]) hx hb dL_refusesStrings_311 (by decide) hl rfl (by decide) rfl (fun ls hl => ?_)
  refine lv_goto (tgt := 2) hx hb dL_refusesStrings_314 (by decide) ?_
  refine lv_iload_n hx hb dL_refusesStrings_2 rfl (lv_at hl 0 rfl) ?_
  refine lv_iconst (v := nI 2) hx hb dL_refusesStrings_3 (by decide) ?_
  refine lv_icmp_ge (tgt := 317) hx hb dL_refusesStrings_4 (by decide) (fun c9 => absurd c9 (by decide)) (fun _ => ?_)
  refine lv_iload_n hx hb dL_refusesStrings_7 rfl (lv_at hl 0 rfl) ?_
  refine lv_if_ne (tgt := 15) hx hb dL_refusesStrings_8 (by decide) (fun _ => ?_) (fun c9 => absurd c9 (by decide))
  refine lv_iconst (v := (-1)) hx hb dL_refusesStrings_15 (by decide) ?_
  refine lv_istore_n (lv' := [(2, .int (-1)), (1, .int (nI 1)), (4, .int (nI 2520)), (3, .int (nI 13)), (0, .ref fs)]) hx hb dL_refusesStrings_16 rfl hl (by decide) rfl (fun ls hl => ?_)
  refine lv_aload_n hx hb dL_refusesStrings_17 rfl (lv_at hl 4 rfl) ?_
  refine lv_iload_n hx hb dL_refusesStrings_18 rfl (lv_at hl 0 rfl) ?_
  refine lv_sipush (v := nI 1000) hx hb dL_refusesStrings_19 (by decide) ?_
  refine o_call (o := (X, h9, len, Ch)) (As := [.int (-1), .int (nI 1000)]) (rest := []) hF (U_tune_i l E tm tl D fs (X, h9, len, Ch) (-1) (nI 1000) (fun h => absurd h.1 (by decide +kernel))) (cwV 2 hts gL_refusesStrings_X6_tune rfl rfl rfl (by decide +kernel) ⟨Nat.le_of_ble_eq_true rfl, Nat.le_of_ble_eq_true rfl⟩) hG hZ (fun _ h9 => h9) hO hS rfl hl.1 rfl (lv_room (Nat.le_of_ble_eq_true rfl)) dL_refusesStrings_22 ⟨Nat.le_of_ble_eq_true rfl, Nat.le_of_ble_eq_true rfl⟩ (fun r9 o9 HZ locsZ hp hO hS hsz9 hfr9 => ?_)
  obtain ⟨rfl, rfl⟩ := hp
  refine lv_iconst (v := (-1)) hx hb dL_refusesStrings_25 (by decide) ?_
  refine lv_icmp_ne (tgt := 174) hx hb dL_refusesStrings_26 (by decide) (fun c9 => absurd c9 (by decide)) (fun _ => ?_)
  refine lv_aload_n hx hb dL_refusesStrings_29 rfl (lv_at hl 4 rfl) ?_
  refine lv_iload_n hx hb dL_refusesStrings_30 rfl (lv_at hl 0 rfl) ?_
  refine lv_iconst (v := nI 0) hx hb dL_refusesStrings_31 (by decide) ?_
  refine o_call (o := (X, h9, len, Ch)) (As := [.int (-1), .int (nI 0)]) (rest := []) hF (U_press_i l E tm tl D fs (X, h9, len, Ch) xb (-1) (nI 0) (fun h => absurd h.1 (by decide +kernel))) (cwV 2 hts gL_refusesStrings_X6_press rfl rfl rfl (by decide +kernel) ⟨Nat.le_of_ble_eq_true rfl, Nat.le_of_ble_eq_true rfl⟩) hG hZ (fun _ h9 => h9) hO hS rfl hl.1 rfl (lv_room (Nat.le_of_ble_eq_true rfl)) dL_refusesStrings_32 ⟨Nat.le_of_ble_eq_true rfl, Nat.le_of_ble_eq_true rfl⟩ (fun r9 o9 HZ locsZ hp hO hS hsz9 hfr9 => ?_)
  obtain ⟨rfl, rfl⟩ := hp
  refine lv_iconst (v := (-1)) hx hb dL_refusesStrings_35 (by decide) ?_
  refine lv_icmp_ne (tgt := 174) hx hb dL_refusesStrings_36 (by decide) (fun c9 => absurd c9 (by decide)) (fun _ => ?_)
  refine lv_aload_n hx hb dL_refusesStrings_39 rfl (lv_at hl 4 rfl) ?_
  refine lv_iload_n hx hb dL_refusesStrings_40 rfl (lv_at hl 0 rfl) ?_
  refine lv_iconst (v := nI 0) hx hb dL_refusesStrings_41 (by decide) ?_
  refine o_call (o := (X, h9, len, Ch)) (As := [.int (-1), .int (nI 0)]) (rest := []) hF (U_touch_i l E tm tl D fs (X, h9, len, Ch) (-1) (nI 0) (fun h => absurd h.1 (by decide +kernel))) (cwV 2 hts gL_refusesStrings_X6_touch rfl rfl rfl (by decide +kernel) ⟨Nat.le_of_ble_eq_true rfl, Nat.le_of_ble_eq_true rfl⟩) hG hZ (fun _ h9 => h9) hO hS rfl hl.1 rfl (lv_room (Nat.le_of_ble_eq_true rfl)) dL_refusesStrings_42 ⟨Nat.le_of_ble_eq_true rfl, Nat.le_of_ble_eq_true rfl⟩ (fun r9 o9 HZ locsZ hp hO hS hsz9 hfr9 => ?_)
  obtain ⟨rfl, rfl⟩ := hp
  refine lv_iconst (v := (-1)) hx hb dL_refusesStrings_45 (by decide) ?_
  refine lv_icmp_ne (tgt := 174) hx hb dL_refusesStrings_46 (by decide) (fun c9 => absurd c9 (by decide)) (fun _ => ?_)
  refine lv_aload_n hx hb dL_refusesStrings_49 rfl (lv_at hl 4 rfl) ?_
  refine lv_iload_n hx hb dL_refusesStrings_50 rfl (lv_at hl 0 rfl) ?_
  refine lv_sipush (v := nI 2519) hx hb dL_refusesStrings_51 (by decide) ?_
  refine lv_iconst (v := nI 1) hx hb dL_refusesStrings_54 (by decide) ?_
  refine o_call (o := (X, h9, len, Ch)) (As := [.int (-1), .int (nI 2519), .int (nI 1)]) (rest := []) hF (U_pluck_i l E tm tl D fs (X, h9, len, Ch) xb (-1) (nI 2519) (nI 1) (fun h => absurd h.1 (by decide +kernel))) (cwV 3 hts gL_refusesStrings_X6_pluck rfl rfl rfl (by decide +kernel) ⟨Nat.le_of_ble_eq_true rfl, Nat.le_of_ble_eq_true rfl⟩) hG hZ (fun _ h9 => h9) hO hS rfl hl.1 rfl (lv_room (Nat.le_of_ble_eq_true rfl)) dL_refusesStrings_55 ⟨Nat.le_of_ble_eq_true rfl, Nat.le_of_ble_eq_true rfl⟩ (fun r9 o9 HZ locsZ hp hO hS hsz9 hfr9 => ?_)
  obtain ⟨rfl, rfl⟩ := hp
  refine lv_iconst (v := (-1)) hx hb dL_refusesStrings_58 (by decide) ?_
  refine lv_icmp_ne (tgt := 174) hx hb dL_refusesStrings_59 (by decide) (fun c9 => absurd c9 (by decide)) (fun _ => ?_)
  refine lv_aload_n hx hb dL_refusesStrings_62 rfl (lv_at hl 4 rfl) ?_
  refine lv_iload_n hx hb dL_refusesStrings_63 rfl (lv_at hl 0 rfl) ?_
  refine o_call (o := (X, h9, len, Ch)) (As := [.int (-1)]) (rest := []) hF (U_damp_i l E tm tl D fs (X, h9, len, Ch) xb (-1) (fun h => absurd h (by decide +kernel))) (cwV 1 hts gL_refusesStrings_X6_damp rfl rfl rfl (by decide +kernel) ⟨Nat.le_of_ble_eq_true rfl, Nat.le_of_ble_eq_true rfl⟩) hG hZ (fun _ h9 => h9) hO hS rfl hl.1 rfl (lv_room (Nat.le_of_ble_eq_true rfl)) dL_refusesStrings_64 ⟨Nat.le_of_ble_eq_true rfl, Nat.le_of_ble_eq_true rfl⟩ (fun r9 o9 HZ locsZ hp hO hS hsz9 hfr9 => ?_)
  obtain ⟨rfl, rfl⟩ := hp
  refine lv_iconst (v := (-1)) hx hb dL_refusesStrings_67 (by decide) ?_
  refine lv_icmp_ne (tgt := 174) hx hb dL_refusesStrings_68 (by decide) (fun c9 => absurd c9 (by decide)) (fun _ => ?_)
  refine lv_aload_n hx hb dL_refusesStrings_71 rfl (lv_at hl 4 rfl) ?_
  refine lv_iload_n hx hb dL_refusesStrings_72 rfl (lv_at hl 0 rfl) ?_
  refine lv_iconst (v := nI 0) hx hb dL_refusesStrings_73 (by decide) ?_
  refine o_call (o := (X, h9, len, Ch)) (As := [.int (-1), .int (nI 0)]) (rest := []) hF (U_stringInfo_i l E tm tl D fs (X, h9, len, Ch) xb (-1) (nI 0) (fun h => absurd h.1 (by decide +kernel))) (cwV 2 hts gL_refusesStrings_X6_stringInfo rfl rfl rfl (by decide +kernel) ⟨Nat.le_of_ble_eq_true rfl, Nat.le_of_ble_eq_true rfl⟩) hG hZ (fun _ h9 => h9) hO hS rfl hl.1 rfl (lv_room (Nat.le_of_ble_eq_true rfl)) dL_refusesStrings_74 ⟨Nat.le_of_ble_eq_true rfl, Nat.le_of_ble_eq_true rfl⟩ (fun r9 o9 HZ locsZ hp hO hS hsz9 hfr9 => ?_)
  obtain ⟨rfl, rfl⟩ := hp
  refine lv_iconst (v := (-1)) hx hb dL_refusesStrings_77 (by decide) ?_
  refine lv_icmp_ne (tgt := 174) hx hb dL_refusesStrings_78 (by decide) (fun c9 => absurd c9 (by decide)) (fun _ => ?_)
  refine lv_aload_n hx hb dL_refusesStrings_81 rfl (lv_at hl 4 rfl) ?_
  refine lv_iload_n hx hb dL_refusesStrings_82 rfl (lv_at hl 0 rfl) ?_
  refine lv_iconst (v := nI 1) hx hb dL_refusesStrings_83 (by decide) ?_
  refine lv_iconst (v := nI 0) hx hb dL_refusesStrings_84 (by decide) ?_
  refine o_call (o := (X, h9, len, Ch)) (As := [.int (-1), .int (nI 1), .int (nI 0)]) (rest := []) hF (U_modeInfo_i l E tm tl D fs (X, h9, len, Ch) xb (-1) (nI 1) (nI 0) (fun h => absurd h.1 (by decide +kernel))) (cwV 3 hts gL_refusesStrings_X6_modeInfo rfl rfl rfl (by decide +kernel) ⟨Nat.le_of_ble_eq_true rfl, Nat.le_of_ble_eq_true rfl⟩) hG hZ (fun _ h9 => h9) hO hS rfl hl.1 rfl (lv_room (Nat.le_of_ble_eq_true rfl)) dL_refusesStrings_85 ⟨Nat.le_of_ble_eq_true rfl, Nat.le_of_ble_eq_true rfl⟩ (fun r9 o9 HZ locsZ hp hO hS hsz9 hfr9 => ?_)
  obtain ⟨rfl, rfl⟩ := hp
  refine lv_iconst (v := (-1)) hx hb dL_refusesStrings_88 (by decide) ?_
  refine lv_icmp_ne (tgt := 174) hx hb dL_refusesStrings_89 (by decide) (fun c9 => absurd c9 (by decide)) (fun _ => ?_)
  refine lv_aload_n hx hb dL_refusesStrings_92 rfl (lv_at hl 4 rfl) ?_
  refine lv_iload_n hx hb dL_refusesStrings_93 rfl (lv_at hl 0 rfl) ?_
  refine lv_iconst (v := nI 1) hx hb dL_refusesStrings_94 (by decide) ?_
  refine lv_sipush (v := nI 2519) hx hb dL_refusesStrings_95 (by decide) ?_
  refine o_call (o := (X, h9, len, Ch)) (As := [.int (-1), .int (nI 1), .int (nI 2519)]) (rest := []) hF (U_node_i l E tm tl D fs (X, h9, len, Ch) xb (-1) (nI 1) (nI 2519) (fun h => absurd h.1 (by decide +kernel))) (cwV 3 hts gL_refusesStrings_X6_node rfl rfl rfl (by decide +kernel) ⟨Nat.le_of_ble_eq_true rfl, Nat.le_of_ble_eq_true rfl⟩) hG hZ (fun _ h9 => h9) hO hS rfl hl.1 rfl (lv_room (Nat.le_of_ble_eq_true rfl)) dL_refusesStrings_98 ⟨Nat.le_of_ble_eq_true rfl, Nat.le_of_ble_eq_true rfl⟩ (fun r9 o9 HZ locsZ hp hO hS hsz9 hfr9 => ?_)
  obtain ⟨rfl, rfl⟩ := hp
  refine lv_iconst (v := (-1)) hx hb dL_refusesStrings_101 (by decide) ?_
  refine lv_icmp_ne (tgt := 174) hx hb dL_refusesStrings_102 (by decide) (fun c9 => absurd c9 (by decide)) (fun _ => ?_)
  refine lv_aload_n hx hb dL_refusesStrings_105 rfl (lv_at hl 4 rfl) ?_
  refine lv_iload_n hx hb dL_refusesStrings_106 rfl (lv_at hl 0 rfl) ?_
  refine lv_iconst (v := nI 1) hx hb dL_refusesStrings_107 (by decide) ?_
  refine lv_sipush (v := nI 2519) hx hb dL_refusesStrings_108 (by decide) ?_
  refine o_call (o := (X, h9, len, Ch)) (As := [.int (-1), .int (nI 1), .int (nI 2519)]) (rest := []) hF (U_nodeAgain_i l E tm tl D fs (X, h9, len, Ch) xb (-1) (nI 1) (nI 2519) (fun h => absurd h.1 (by decide +kernel))) (cwV 3 hts gL_refusesStrings_X6_nodeAgain rfl rfl rfl (by decide +kernel) ⟨Nat.le_of_ble_eq_true rfl, Nat.le_of_ble_eq_true rfl⟩) hG hZ (fun _ h9 => h9) hO hS rfl hl.1 rfl (lv_room (Nat.le_of_ble_eq_true rfl)) dL_refusesStrings_111 ⟨Nat.le_of_ble_eq_true rfl, Nat.le_of_ble_eq_true rfl⟩ (fun r9 o9 HZ locsZ hp hO hS hsz9 hfr9 => ?_)
  obtain ⟨rfl, rfl⟩ := hp
  refine lv_iconst (v := (-1)) hx hb dL_refusesStrings_114 (by decide) ?_
  refine lv_icmp_ne (tgt := 174) hx hb dL_refusesStrings_115 (by decide) (fun c9 => absurd c9 (by decide)) (fun _ => ?_)
  refine lv_aload_n hx hb dL_refusesStrings_118 rfl (lv_at hl 4 rfl) ?_
  refine lv_iload_n hx hb dL_refusesStrings_119 rfl (lv_at hl 0 rfl) ?_
  refine lv_iconst (v := nI 1) hx hb dL_refusesStrings_120 (by decide) ?_
  refine o_call (o := (X, h9, len, Ch)) (As := [.int (-1), .int (nI 1)]) (rest := []) hF (U_ticksTo_i l E tm tl D fs (X, h9, len, Ch) xb (-1) (nI 1) (fun h => absurd h.1 (by decide +kernel))) (cwV 2 hts gL_refusesStrings_X6_ticksTo rfl rfl rfl (by decide +kernel) ⟨Nat.le_of_ble_eq_true rfl, Nat.le_of_ble_eq_true rfl⟩) hG hZ (fun _ h9 => h9) hO hS rfl hl.1 rfl (lv_room (Nat.le_of_ble_eq_true rfl)) dL_refusesStrings_121 ⟨Nat.le_of_ble_eq_true rfl, Nat.le_of_ble_eq_true rfl⟩ (fun r9 o9 HZ locsZ hp hO hS hsz9 hfr9 => ?_)
  obtain ⟨rfl, rfl⟩ := hp
  refine lv_iconst (v := (-1)) hx hb dL_refusesStrings_124 (by decide) ?_
  refine lv_icmp_ne (tgt := 174) hx hb dL_refusesStrings_125 (by decide) (fun c9 => absurd c9 (by decide)) (fun _ => ?_)
  refine lv_aload_n hx hb dL_refusesStrings_128 rfl (lv_at hl 4 rfl) ?_
  refine lv_iload_n hx hb dL_refusesStrings_129 rfl (lv_at hl 0 rfl) ?_
  refine lv_iconst (v := nI 1) hx hb dL_refusesStrings_130 (by decide) ?_
  refine lv_iconst (v := nI 0) hx hb dL_refusesStrings_131 (by decide) ?_
  refine lv_iconst (v := nI 1) hx hb dL_refusesStrings_132 (by decide) ?_
  refine o_call (o := (X, h9, len, Ch)) (As := [.int (-1), .int (nI 1), .int (nI 0), .int (nI 1)]) (rest := []) hF (U_beat_i l E tm tl D fs (X, h9, len, Ch) xb (-1) (nI 1) (nI 0) (nI 1) (fun h => absurd h.1.1 (by decide +kernel))) (cwV 4 hts gL_refusesStrings_X6_beat rfl rfl rfl (by decide +kernel) ⟨Nat.le_of_ble_eq_true rfl, Nat.le_of_ble_eq_true rfl⟩) hG hZ (fun _ h9 => h9) hO hS rfl hl.1 rfl (lv_room (Nat.le_of_ble_eq_true rfl)) dL_refusesStrings_133 ⟨Nat.le_of_ble_eq_true rfl, Nat.le_of_ble_eq_true rfl⟩ (fun r9 o9 HZ locsZ hp hO hS hsz9 hfr9 => ?_)
  obtain ⟨rfl, rfl⟩ := hp
  refine lv_iconst (v := (-1)) hx hb dL_refusesStrings_136 (by decide) ?_
  refine lv_icmp_ne (tgt := 174) hx hb dL_refusesStrings_137 (by decide) (fun c9 => absurd c9 (by decide)) (fun _ => ?_)
  refine lv_aload_n hx hb dL_refusesStrings_140 rfl (lv_at hl 4 rfl) ?_
  refine lv_iconst (v := nI 0) hx hb dL_refusesStrings_141 (by decide) ?_
  refine lv_iconst (v := nI 1) hx hb dL_refusesStrings_142 (by decide) ?_
  refine lv_iload_n hx hb dL_refusesStrings_143 rfl (lv_at hl 0 rfl) ?_
  refine lv_iconst (v := nI 1) hx hb dL_refusesStrings_144 (by decide) ?_
  refine o_call (o := (X, h9, len, Ch)) (As := [.int (nI 0), .int (nI 1), .int (-1), .int (nI 1)]) (rest := []) hF (U_beat_i l E tm tl D fs (X, h9, len, Ch) xb (nI 0) (nI 1) (-1) (nI 1) (fun h => absurd h.1.2.1 (by decide +kernel))) (cwV 4 hts gL_refusesStrings_X6_beat rfl rfl rfl (by decide +kernel) ⟨Nat.le_of_ble_eq_true rfl, Nat.le_of_ble_eq_true rfl⟩) hG hZ (fun _ h9 => h9) hO hS rfl hl.1 rfl (lv_room (Nat.le_of_ble_eq_true rfl)) dL_refusesStrings_145 ⟨Nat.le_of_ble_eq_true rfl, Nat.le_of_ble_eq_true rfl⟩ (fun r9 o9 HZ locsZ hp hO hS hsz9 hfr9 => ?_)
  obtain ⟨rfl, rfl⟩ := hp
  refine lv_iconst (v := (-1)) hx hb dL_refusesStrings_148 (by decide) ?_
  refine lv_icmp_ne (tgt := 174) hx hb dL_refusesStrings_149 (by decide) (fun c9 => absurd c9 (by decide)) (fun _ => ?_)
  refine lv_aload_n hx hb dL_refusesStrings_152 rfl (lv_at hl 4 rfl) ?_
  refine lv_iload_n hx hb dL_refusesStrings_153 rfl (lv_at hl 0 rfl) ?_
  refine lv_iconst (v := nI 0) hx hb dL_refusesStrings_154 (by decide) ?_
  refine lv_iconst (v := nI 0) hx hb dL_refusesStrings_155 (by decide) ?_
  refine o_call (o := (X, h9, len, Ch)) (As := [.int (-1), .int (nI 0), .int (nI 0)]) (rest := []) hF (U_slowest_i l E tm tl D fs (X, h9, len, Ch) xb (-1) (nI 0) (nI 0) (fun h => absurd h.1.1 (by decide +kernel))) (cwV 3 hts gL_refusesStrings_X6_slowest rfl rfl rfl (by decide +kernel) ⟨Nat.le_of_ble_eq_true rfl, Nat.le_of_ble_eq_true rfl⟩) hG hZ (fun _ h9 => h9) hO hS rfl hl.1 rfl (lv_room (Nat.le_of_ble_eq_true rfl)) dL_refusesStrings_156 ⟨Nat.le_of_ble_eq_true rfl, Nat.le_of_ble_eq_true rfl⟩ (fun r9 o9 HZ locsZ hp hO hS hsz9 hfr9 => ?_)
  obtain ⟨rfl, rfl⟩ := hp
  refine lv_iconst (v := (-1)) hx hb dL_refusesStrings_159 (by decide) ?_
  refine lv_icmp_ne (tgt := 174) hx hb dL_refusesStrings_160 (by decide) (fun c9 => absurd c9 (by decide)) (fun _ => ?_)
  refine lv_aload_n hx hb dL_refusesStrings_163 rfl (lv_at hl 4 rfl) ?_
  refine lv_iconst (v := nI 0) hx hb dL_refusesStrings_164 (by decide) ?_
  refine lv_iload_n hx hb dL_refusesStrings_165 rfl (lv_at hl 0 rfl) ?_
  refine lv_iconst (v := nI 0) hx hb dL_refusesStrings_166 (by decide) ?_
  refine o_call (o := (X, h9, len, Ch)) (As := [.int (nI 0), .int (-1), .int (nI 0)]) (rest := []) hF (U_slowest_i l E tm tl D fs (X, h9, len, Ch) xb (nI 0) (-1) (nI 0) (fun h => absurd h.1.2.1 (by decide +kernel))) (cwV 3 hts gL_refusesStrings_X6_slowest rfl rfl rfl (by decide +kernel) ⟨Nat.le_of_ble_eq_true rfl, Nat.le_of_ble_eq_true rfl⟩) hG hZ (fun _ h9 => h9) hO hS rfl hl.1 rfl (lv_room (Nat.le_of_ble_eq_true rfl)) dL_refusesStrings_167 ⟨Nat.le_of_ble_eq_true rfl, Nat.le_of_ble_eq_true rfl⟩ (fun r9 o9 HZ locsZ hp hO hS hsz9 hfr9 => ?_)
  obtain ⟨rfl, rfl⟩ := hp
  refine lv_iconst (v := (-1)) hx hb dL_refusesStrings_170 (by decide) ?_
  refine lv_icmp_eq (tgt := 176) hx hb dL_refusesStrings_171 (by decide) (fun _ => ?_) (fun c9 => absurd c9 (by decide))
  refine lv_iload_n hx hb dL_refusesStrings_176 rfl (lv_at hl 1 rfl) ?_
  refine lv_if_ne (tgt := 185) hx hb dL_refusesStrings_177 (by decide) (fun _ => ?_) (fun c9 => absurd c9 (by decide))
  refine lv_iconst (v := nI 0) hx hb dL_refusesStrings_185 (by decide) ?_
  refine lv_istore_n (lv' := [(3, .int (nI 0)), (2, .int (-1)), (1, .int (nI 1)), (4, .int (nI 2520)), (0, .ref fs)]) hx hb dL_refusesStrings_186 rfl hl (by decide) rfl (fun ls hl => ?_)
  refine lv_aload_n hx hb dL_refusesStrings_187 rfl (lv_at hl 4 rfl) ?_
  refine lv_iconst (v := nI 0) hx hb dL_refusesStrings_188 (by decide) ?_
  refine lv_iload_n hx hb dL_refusesStrings_189 rfl (lv_at hl 0 rfl) ?_
  refine lv_iconst (v := nI 0) hx hb dL_refusesStrings_190 (by decide) ?_
  refine o_call (o := (X, h9, len, Ch)) (As := [.int (nI 0), .int (nI 0), .int (nI 0)]) (rest := []) hF (U_modeInfo_i l E tm tl D fs (X, h9, len, Ch) xb (nI 0) (nI 0) (nI 0) (fun h => absurd h.2.1 (by decide +kernel))) (cwV 3 hts gL_refusesStrings_X6_modeInfo rfl rfl rfl (by decide +kernel) ⟨Nat.le_of_ble_eq_true rfl, Nat.le_of_ble_eq_true rfl⟩) hG hZ (fun _ h9 => h9) hO hS rfl hl.1 rfl (lv_room (Nat.le_of_ble_eq_true rfl)) dL_refusesStrings_191 ⟨Nat.le_of_ble_eq_true rfl, Nat.le_of_ble_eq_true rfl⟩ (fun r9 o9 HZ locsZ hp hO hS hsz9 hfr9 => ?_)
  obtain ⟨rfl, rfl⟩ := hp
  refine lv_iconst (v := (-1)) hx hb dL_refusesStrings_194 (by decide) ?_
  refine lv_icmp_ne (tgt := 258) hx hb dL_refusesStrings_195 (by decide) (fun c9 => absurd c9 (by decide)) (fun _ => ?_)
  refine lv_aload_n hx hb dL_refusesStrings_198 rfl (lv_at hl 4 rfl) ?_
  refine lv_iconst (v := nI 0) hx hb dL_refusesStrings_199 (by decide) ?_
  refine lv_iload_n hx hb dL_refusesStrings_200 rfl (lv_at hl 0 rfl) ?_
  refine lv_sipush (v := nI 2519) hx hb dL_refusesStrings_201 (by decide) ?_
  refine o_call (o := (X, h9, len, Ch)) (As := [.int (nI 0), .int (nI 0), .int (nI 2519)]) (rest := []) hF (U_node_i l E tm tl D fs (X, h9, len, Ch) xb (nI 0) (nI 0) (nI 2519) (fun h => absurd h.2.1 (by decide +kernel))) (cwV 3 hts gL_refusesStrings_X6_node rfl rfl rfl (by decide +kernel) ⟨Nat.le_of_ble_eq_true rfl, Nat.le_of_ble_eq_true rfl⟩) hG hZ (fun _ h9 => h9) hO hS rfl hl.1 rfl (lv_room (Nat.le_of_ble_eq_true rfl)) dL_refusesStrings_204 ⟨Nat.le_of_ble_eq_true rfl, Nat.le_of_ble_eq_true rfl⟩ (fun r9 o9 HZ locsZ hp hO hS hsz9 hfr9 => ?_)
  obtain ⟨rfl, rfl⟩ := hp
  refine lv_iconst (v := (-1)) hx hb dL_refusesStrings_207 (by decide) ?_
  refine lv_icmp_ne (tgt := 258) hx hb dL_refusesStrings_208 (by decide) (fun c9 => absurd c9 (by decide)) (fun _ => ?_)
  refine lv_aload_n hx hb dL_refusesStrings_211 rfl (lv_at hl 4 rfl) ?_
  refine lv_iconst (v := nI 0) hx hb dL_refusesStrings_212 (by decide) ?_
  refine lv_iload_n hx hb dL_refusesStrings_213 rfl (lv_at hl 0 rfl) ?_
  refine lv_sipush (v := nI 2519) hx hb dL_refusesStrings_214 (by decide) ?_
  refine o_call (o := (X, h9, len, Ch)) (As := [.int (nI 0), .int (nI 0), .int (nI 2519)]) (rest := []) hF (U_nodeAgain_i l E tm tl D fs (X, h9, len, Ch) xb (nI 0) (nI 0) (nI 2519) (fun h => absurd h.2.1 (by decide +kernel))) (cwV 3 hts gL_refusesStrings_X6_nodeAgain rfl rfl rfl (by decide +kernel) ⟨Nat.le_of_ble_eq_true rfl, Nat.le_of_ble_eq_true rfl⟩) hG hZ (fun _ h9 => h9) hO hS rfl hl.1 rfl (lv_room (Nat.le_of_ble_eq_true rfl)) dL_refusesStrings_217 ⟨Nat.le_of_ble_eq_true rfl, Nat.le_of_ble_eq_true rfl⟩ (fun r9 o9 HZ locsZ hp hO hS hsz9 hfr9 => ?_)
  obtain ⟨rfl, rfl⟩ := hp
  refine lv_iconst (v := (-1)) hx hb dL_refusesStrings_220 (by decide) ?_
  refine lv_icmp_ne (tgt := 258) hx hb dL_refusesStrings_221 (by decide) (fun c9 => absurd c9 (by decide)) (fun _ => ?_)
  refine lv_aload_n hx hb dL_refusesStrings_224 rfl (lv_at hl 4 rfl) ?_
  refine lv_iconst (v := nI 0) hx hb dL_refusesStrings_225 (by decide) ?_
  refine lv_iload_n hx hb dL_refusesStrings_226 rfl (lv_at hl 0 rfl) ?_
  refine o_call (o := (X, h9, len, Ch)) (As := [.int (nI 0), .int (nI 0)]) (rest := []) hF (U_ticksTo_i l E tm tl D fs (X, h9, len, Ch) xb (nI 0) (nI 0) (fun h => absurd h.2 (by decide +kernel))) (cwV 2 hts gL_refusesStrings_X6_ticksTo rfl rfl rfl (by decide +kernel) ⟨Nat.le_of_ble_eq_true rfl, Nat.le_of_ble_eq_true rfl⟩) hG hZ (fun _ h9 => h9) hO hS rfl hl.1 rfl (lv_room (Nat.le_of_ble_eq_true rfl)) dL_refusesStrings_227 ⟨Nat.le_of_ble_eq_true rfl, Nat.le_of_ble_eq_true rfl⟩ (fun r9 o9 HZ locsZ hp hO hS hsz9 hfr9 => ?_)
  obtain ⟨rfl, rfl⟩ := hp
  refine lv_iconst (v := (-1)) hx hb dL_refusesStrings_230 (by decide) ?_
  refine lv_icmp_ne (tgt := 258) hx hb dL_refusesStrings_231 (by decide) (fun c9 => absurd c9 (by decide)) (fun _ => ?_)
  refine lv_aload_n hx hb dL_refusesStrings_234 rfl (lv_at hl 4 rfl) ?_
  refine lv_iconst (v := nI 0) hx hb dL_refusesStrings_235 (by decide) ?_
  refine lv_iload_n hx hb dL_refusesStrings_236 rfl (lv_at hl 0 rfl) ?_
  refine lv_iconst (v := nI 1) hx hb dL_refusesStrings_237 (by decide) ?_
  refine lv_iconst (v := nI 1) hx hb dL_refusesStrings_238 (by decide) ?_
  refine o_call (o := (X, h9, len, Ch)) (As := [.int (nI 0), .int (nI 0), .int (nI 1), .int (nI 1)]) (rest := []) hF (U_beat_i l E tm tl D fs (X, h9, len, Ch) xb (nI 0) (nI 0) (nI 1) (nI 1) (fun h => absurd h.2.1 (by decide +kernel))) (cwV 4 hts gL_refusesStrings_X6_beat rfl rfl rfl (by decide +kernel) ⟨Nat.le_of_ble_eq_true rfl, Nat.le_of_ble_eq_true rfl⟩) hG hZ (fun _ h9 => h9) hO hS rfl hl.1 rfl (lv_room (Nat.le_of_ble_eq_true rfl)) dL_refusesStrings_239 ⟨Nat.le_of_ble_eq_true rfl, Nat.le_of_ble_eq_true rfl⟩ (fun r9 o9 HZ locsZ hp hO hS hsz9 hfr9 => ?_)
  obtain ⟨rfl, rfl⟩ := hp
  refine lv_iconst (v := (-1)) hx hb dL_refusesStrings_242 (by decide) ?_
  refine lv_icmp_ne (tgt := 258) hx hb dL_refusesStrings_243 (by decide) (fun c9 => absurd c9 (by decide)) (fun _ => ?_)
  refine lv_aload_n hx hb dL_refusesStrings_246 rfl (lv_at hl 4 rfl) ?_
  refine lv_iconst (v := nI 0) hx hb dL_refusesStrings_247 (by decide) ?_
  refine lv_iconst (v := nI 1) hx hb dL_refusesStrings_248 (by decide) ?_
  refine lv_iconst (v := nI 1) hx hb dL_refusesStrings_249 (by decide) ?_
  refine lv_iload_n hx hb dL_refusesStrings_250 rfl (lv_at hl 0 rfl) ?_
  refine o_call (o := (X, h9, len, Ch)) (As := [.int (nI 0), .int (nI 1), .int (nI 1), .int (nI 0)]) (rest := []) hF (U_beat_i l E tm tl D fs (X, h9, len, Ch) xb (nI 0) (nI 1) (nI 1) (nI 0) (fun h => absurd h.2.2 (by decide +kernel))) (cwV 4 hts gL_refusesStrings_X6_beat rfl rfl rfl (by decide +kernel) ⟨Nat.le_of_ble_eq_true rfl, Nat.le_of_ble_eq_true rfl⟩) hG hZ (fun _ h9 => h9) hO hS rfl hl.1 rfl (lv_room (Nat.le_of_ble_eq_true rfl)) dL_refusesStrings_251 ⟨Nat.le_of_ble_eq_true rfl, Nat.le_of_ble_eq_true rfl⟩ (fun r9 o9 HZ locsZ hp hO hS hsz9 hfr9 => ?_)
  obtain ⟨rfl, rfl⟩ := hp
  refine lv_iconst (v := (-1)) hx hb dL_refusesStrings_254 (by decide) ?_
  refine lv_icmp_eq (tgt := 260) hx hb dL_refusesStrings_255 (by decide) (fun _ => ?_) (fun c9 => absurd c9 (by decide))
  refine lv_iload_n hx hb dL_refusesStrings_260 rfl (lv_at hl 2 rfl) ?_
  refine lv_if_ne (tgt := 270) hx hb dL_refusesStrings_261 (by decide) (fun _ => ?_) (fun c9 => absurd c9 (by decide))
  refine lv_iconst (v := nI 0) hx hb dL_refusesStrings_270 (by decide) ?_
  refine lv_istore (lv' := [(4, .int (nI 0)), (3, .int (nI 0)), (2, .int (-1)), (1, .int (nI 1)), (0, .ref fs)]) hx hb dL_refusesStrings_271 hl (by decide) rfl (fun ls hl => ?_)
  refine lv_aload_n hx hb dL_refusesStrings_273 rfl (lv_at hl 4 rfl) ?_
  refine lv_iconst (v := nI 0) hx hb dL_refusesStrings_274 (by decide) ?_
  refine lv_iload hx hb dL_refusesStrings_275 (lv_at hl 0 rfl) ?_
  refine lv_iconst (v := nI 1) hx hb dL_refusesStrings_277 (by decide) ?_
  refine o_call (o := (X, h9, len, Ch)) (As := [.int (nI 0), .int (nI 0), .int (nI 1)]) (rest := []) hF (U_pluck_i l E tm tl D fs (X, h9, len, Ch) xb (nI 0) (nI 0) (nI 1) (fun h => absurd h.2.1 (by decide +kernel))) (cwV 3 hts gL_refusesStrings_X6_pluck rfl rfl rfl (by decide +kernel) ⟨Nat.le_of_ble_eq_true rfl, Nat.le_of_ble_eq_true rfl⟩) hG hZ (fun _ h9 => h9) hO hS rfl hl.1 rfl (lv_room (Nat.le_of_ble_eq_true rfl)) dL_refusesStrings_278 ⟨Nat.le_of_ble_eq_true rfl, Nat.le_of_ble_eq_true rfl⟩ (fun r9 o9 HZ locsZ hp hO hS hsz9 hfr9 => ?_)
  obtain ⟨rfl, rfl⟩ := hp
  refine lv_iconst (v := (-1)) hx hb dL_refusesStrings_281 (by decide) ?_
  refine lv_icmp_ne (tgt := 309) hx hb dL_refusesStrings_282 (by decide) (fun c9 => absurd c9 (by decide)) (fun _ => ?_)
  refine lv_aload_n hx hb dL_refusesStrings_285 rfl (lv_at hl 4 rfl) ?_
  refine lv_iconst (v := nI 0) hx hb dL_refusesStrings_286 (by decide) ?_
  refine lv_iconst (v := nI 1) hx hb dL_refusesStrings_287 (by decide) ?_
  refine lv_iload hx hb dL_refusesStrings_288 (lv_at hl 0 rfl) ?_
  refine o_call (o := (X, h9, len, Ch)) (As := [.int (nI 0), .int (nI 1), .int (nI 0)]) (rest := []) hF (U_node_i l E tm tl D fs (X, h9, len, Ch) xb (nI 0) (nI 1) (nI 0) (fun h => absurd h.2.2 (by decide +kernel))) (cwV 3 hts gL_refusesStrings_X6_node rfl rfl rfl (by decide +kernel) ⟨Nat.le_of_ble_eq_true rfl, Nat.le_of_ble_eq_true rfl⟩) hG hZ (fun _ h9 => h9) hO hS rfl hl.1 rfl (lv_room (Nat.le_of_ble_eq_true rfl)) dL_refusesStrings_290 ⟨Nat.le_of_ble_eq_true rfl, Nat.le_of_ble_eq_true rfl⟩ (fun r9 o9 HZ locsZ hp hO hS hsz9 hfr9 => ?_)
  obtain ⟨rfl, rfl⟩ := hp
  refine lv_iconst (v := (-1)) hx hb dL_refusesStrings_293 (by decide) ?_
  refine lv_icmp_ne (tgt := 309) hx hb dL_refusesStrings_294 (by decide) (fun c9 => absurd c9 (by decide)) (fun _ => ?_)
  refine lv_aload_n hx hb dL_refusesStrings_297 rfl (lv_at hl 4 rfl) ?_
  refine lv_iconst (v := nI 0) hx hb dL_refusesStrings_298 (by decide) ?_
  refine lv_iconst (v := nI 1) hx hb dL_refusesStrings_299 (by decide) ?_
  refine lv_iload hx hb dL_refusesStrings_300 (lv_at hl 0 rfl) ?_
  refine o_call (o := (X, h9, len, Ch)) (As := [.int (nI 0), .int (nI 1), .int (nI 0)]) (rest := []) hF (U_nodeAgain_i l E tm tl D fs (X, h9, len, Ch) xb (nI 0) (nI 1) (nI 0) (fun h => absurd h.2.2 (by decide +kernel))) (cwV 3 hts gL_refusesStrings_X6_nodeAgain rfl rfl rfl (by decide +kernel) ⟨Nat.le_of_ble_eq_true rfl, Nat.le_of_ble_eq_true rfl⟩) hG hZ (fun _ h9 => h9) hO hS rfl hl.1 rfl (lv_room (Nat.le_of_ble_eq_true rfl)) dL_refusesStrings_302 ⟨Nat.le_of_ble_eq_true rfl, Nat.le_of_ble_eq_true rfl⟩ (fun r9 o9 HZ locsZ hp hO hS hsz9 hfr9 => ?_)
  obtain ⟨rfl, rfl⟩ := hp
  refine lv_iconst (v := (-1)) hx hb dL_refusesStrings_305 (by decide) ?_
  refine lv_icmp_eq (tgt := 311) hx hb dL_refusesStrings_306 (by decide) (fun _ => ?_) (fun c9 => absurd c9 (by decide))
  refine z_iinc (k := 3) (d := 1) (lv' := [(1, .int (nI 2)), (4, .int (nI 0)), (3, .int (nI 0)), (2, .int (-1)), (0, .ref fs)]) hx hb dL_refusesStrings_311 (by decide) hl rfl (by decide) rfl (fun ls hl => ?_)
  refine lv_goto (tgt := 2) hx hb dL_refusesStrings_314 (by decide) ?_
  refine lv_iload_n hx hb dL_refusesStrings_2 rfl (lv_at hl 0 rfl) ?_
  refine lv_iconst (v := nI 2) hx hb dL_refusesStrings_3 (by decide) ?_
  refine lv_icmp_ge (tgt := 317) hx hb dL_refusesStrings_4 (by decide) (fun _ => ?_) (fun c9 => absurd c9 (by decide))
  refine lv_aload_n hx hb dL_refusesStrings_317 rfl (lv_at hl 4 rfl) ?_
  refine lv_iconst (v := nI 0) hx hb dL_refusesStrings_318 (by decide) ?_
  refine lv_sipush (v := nI 999) hx hb dL_refusesStrings_319 (by decide) ?_
  refine o_call (o := (X, h9, len, Ch)) (As := [.int (nI 0), .int (nI 999)]) (rest := []) hF (U_tune_i l E tm tl D fs (X, h9, len, Ch) (nI 0) (nI 999) (fun h => absurd h.2 (by decide +kernel))) (cwV 2 hts gL_refusesStrings_X6_tune rfl rfl rfl (by decide +kernel) ⟨Nat.le_of_ble_eq_true rfl, Nat.le_of_ble_eq_true rfl⟩) hG hZ (fun _ h9 => h9) hO hS rfl hl.1 rfl (lv_room (Nat.le_of_ble_eq_true rfl)) dL_refusesStrings_322 ⟨Nat.le_of_ble_eq_true rfl, Nat.le_of_ble_eq_true rfl⟩ (fun r9 o9 HZ locsZ hp hO hS hsz9 hfr9 => ?_)
  obtain ⟨rfl, rfl⟩ := hp
  refine lv_iconst (v := (-1)) hx hb dL_refusesStrings_325 (by decide) ?_
  refine lv_icmp_ne (tgt := 482) hx hb dL_refusesStrings_326 (by decide) (fun c9 => absurd c9 (by decide)) (fun _ => ?_)
  refine lv_aload_n hx hb dL_refusesStrings_329 rfl (lv_at hl 4 rfl) ?_
  refine lv_iconst (v := nI 0) hx hb dL_refusesStrings_330 (by decide) ?_
  refine lv_ldc (v := nI 100000001) hx hb hown (hts (.constant RL 70 100000001) (by decide +kernel)) dL_refusesStrings_331 ?_
  refine o_call (o := (X, h9, len, Ch)) (As := [.int (nI 0), .int (nI 100000001)]) (rest := []) hF (U_tune_i l E tm tl D fs (X, h9, len, Ch) (nI 0) (nI 100000001) (fun h => absurd h.2 (by decide +kernel))) (cwV 2 hts gL_refusesStrings_X6_tune rfl rfl rfl (by decide +kernel) ⟨Nat.le_of_ble_eq_true rfl, Nat.le_of_ble_eq_true rfl⟩) hG hZ (fun _ h9 => h9) hO hS rfl hl.1 rfl (lv_room (Nat.le_of_ble_eq_true rfl)) dL_refusesStrings_333 ⟨Nat.le_of_ble_eq_true rfl, Nat.le_of_ble_eq_true rfl⟩ (fun r9 o9 HZ locsZ hp hO hS hsz9 hfr9 => ?_)
  obtain ⟨rfl, rfl⟩ := hp
  refine lv_iconst (v := (-1)) hx hb dL_refusesStrings_336 (by decide) ?_
  refine lv_icmp_ne (tgt := 482) hx hb dL_refusesStrings_337 (by decide) (fun c9 => absurd c9 (by decide)) (fun _ => ?_)
  refine lv_aload_n hx hb dL_refusesStrings_340 rfl (lv_at hl 4 rfl) ?_
  refine lv_iconst (v := nI 0) hx hb dL_refusesStrings_341 (by decide) ?_
  refine lv_sipush (v := nI 2520) hx hb dL_refusesStrings_342 (by decide) ?_
  refine o_call (o := (X, h9, len, Ch)) (As := [.int (nI 0), .int (nI 2520)]) (rest := []) hF (U_touch_i l E tm tl D fs (X, h9, len, Ch) (nI 0) (nI 2520) (fun h => absurd h.2 (by decide +kernel))) (cwV 2 hts gL_refusesStrings_X6_touch rfl rfl rfl (by decide +kernel) ⟨Nat.le_of_ble_eq_true rfl, Nat.le_of_ble_eq_true rfl⟩) hG hZ (fun _ h9 => h9) hO hS rfl hl.1 rfl (lv_room (Nat.le_of_ble_eq_true rfl)) dL_refusesStrings_345 ⟨Nat.le_of_ble_eq_true rfl, Nat.le_of_ble_eq_true rfl⟩ (fun r9 o9 HZ locsZ hp hO hS hsz9 hfr9 => ?_)
  obtain ⟨rfl, rfl⟩ := hp
  refine lv_iconst (v := (-1)) hx hb dL_refusesStrings_348 (by decide) ?_
  refine lv_icmp_ne (tgt := 482) hx hb dL_refusesStrings_349 (by decide) (fun c9 => absurd c9 (by decide)) (fun _ => ?_)
  refine lv_aload_n hx hb dL_refusesStrings_352 rfl (lv_at hl 4 rfl) ?_
  refine lv_iconst (v := nI 0) hx hb dL_refusesStrings_353 (by decide) ?_
  refine lv_iconst (v := (-1)) hx hb dL_refusesStrings_354 (by decide) ?_
  refine o_call (o := (X, h9, len, Ch)) (As := [.int (nI 0), .int (-1)]) (rest := []) hF (U_touch_i l E tm tl D fs (X, h9, len, Ch) (nI 0) (-1) (fun h => absurd h.2 (by decide +kernel))) (cwV 2 hts gL_refusesStrings_X6_touch rfl rfl rfl (by decide +kernel) ⟨Nat.le_of_ble_eq_true rfl, Nat.le_of_ble_eq_true rfl⟩) hG hZ (fun _ h9 => h9) hO hS rfl hl.1 rfl (lv_room (Nat.le_of_ble_eq_true rfl)) dL_refusesStrings_355 ⟨Nat.le_of_ble_eq_true rfl, Nat.le_of_ble_eq_true rfl⟩ (fun r9 o9 HZ locsZ hp hO hS hsz9 hfr9 => ?_)
  obtain ⟨rfl, rfl⟩ := hp
  refine lv_iconst (v := (-1)) hx hb dL_refusesStrings_358 (by decide) ?_
  refine lv_icmp_ne (tgt := 482) hx hb dL_refusesStrings_359 (by decide) (fun c9 => absurd c9 (by decide)) (fun _ => ?_)
  refine lv_aload_n hx hb dL_refusesStrings_362 rfl (lv_at hl 4 rfl) ?_
  refine lv_iconst (v := nI 0) hx hb dL_refusesStrings_363 (by decide) ?_
  refine lv_sipush (v := nI 2519) hx hb dL_refusesStrings_364 (by decide) ?_
  refine lv_iconst (v := nI 0) hx hb dL_refusesStrings_367 (by decide) ?_
  refine o_call (o := (X, h9, len, Ch)) (As := [.int (nI 0), .int (nI 2519), .int (nI 0)]) (rest := []) hF (U_pluck_i l E tm tl D fs (X, h9, len, Ch) xb (nI 0) (nI 2519) (nI 0) (fun h => absurd h.2.2 (by decide +kernel))) (cwV 3 hts gL_refusesStrings_X6_pluck rfl rfl rfl (by decide +kernel) ⟨Nat.le_of_ble_eq_true rfl, Nat.le_of_ble_eq_true rfl⟩) hG hZ (fun _ h9 => h9) hO hS rfl hl.1 rfl (lv_room (Nat.le_of_ble_eq_true rfl)) dL_refusesStrings_368 ⟨Nat.le_of_ble_eq_true rfl, Nat.le_of_ble_eq_true rfl⟩ (fun r9 o9 HZ locsZ hp hO hS hsz9 hfr9 => ?_)
  obtain ⟨rfl, rfl⟩ := hp
  refine lv_iconst (v := (-1)) hx hb dL_refusesStrings_371 (by decide) ?_
  refine lv_icmp_ne (tgt := 482) hx hb dL_refusesStrings_372 (by decide) (fun c9 => absurd c9 (by decide)) (fun _ => ?_)
  refine lv_aload_n hx hb dL_refusesStrings_375 rfl (lv_at hl 4 rfl) ?_
  refine lv_iconst (v := nI 0) hx hb dL_refusesStrings_376 (by decide) ?_
  refine lv_sipush (v := nI 2519) hx hb dL_refusesStrings_377 (by decide) ?_
  refine lv_sipush (v := nI 1001) hx hb dL_refusesStrings_380 (by decide) ?_
  refine o_call (o := (X, h9, len, Ch)) (As := [.int (nI 0), .int (nI 2519), .int (nI 1001)]) (rest := []) hF (U_pluck_i l E tm tl D fs (X, h9, len, Ch) xb (nI 0) (nI 2519) (nI 1001) (fun h => absurd h.2.2 (by decide +kernel))) (cwV 3 hts gL_refusesStrings_X6_pluck rfl rfl rfl (by decide +kernel) ⟨Nat.le_of_ble_eq_true rfl, Nat.le_of_ble_eq_true rfl⟩) hG hZ (fun _ h9 => h9) hO hS rfl hl.1 rfl (lv_room (Nat.le_of_ble_eq_true rfl)) dL_refusesStrings_383 ⟨Nat.le_of_ble_eq_true rfl, Nat.le_of_ble_eq_true rfl⟩ (fun r9 o9 HZ locsZ hp hO hS hsz9 hfr9 => ?_)
  obtain ⟨rfl, rfl⟩ := hp
  refine lv_iconst (v := (-1)) hx hb dL_refusesStrings_386 (by decide) ?_
  refine lv_icmp_ne (tgt := 482) hx hb dL_refusesStrings_387 (by decide) (fun c9 => absurd c9 (by decide)) (fun _ => ?_)
  refine lv_aload_n hx hb dL_refusesStrings_390 rfl (lv_at hl 4 rfl) ?_
  refine lv_iconst (v := nI 0) hx hb dL_refusesStrings_391 (by decide) ?_
  refine lv_bipush (v := nI 9) hx hb dL_refusesStrings_392 (by decide) ?_
  refine o_call (o := (X, h9, len, Ch)) (As := [.int (nI 0), .int (nI 9)]) (rest := []) hF (U_stringInfo_i l E tm tl D fs (X, h9, len, Ch) xb (nI 0) (nI 9) (fun h => absurd h.2 (by decide +kernel))) (cwV 2 hts gL_refusesStrings_X6_stringInfo rfl rfl rfl (by decide +kernel) ⟨Nat.le_of_ble_eq_true rfl, Nat.le_of_ble_eq_true rfl⟩) hG hZ (fun _ h9 => h9) hO hS rfl hl.1 rfl (lv_room (Nat.le_of_ble_eq_true rfl)) dL_refusesStrings_394 ⟨Nat.le_of_ble_eq_true rfl, Nat.le_of_ble_eq_true rfl⟩ (fun r9 o9 HZ locsZ hp hO hS hsz9 hfr9 => ?_)
  obtain ⟨rfl, rfl⟩ := hp
  refine lv_iconst (v := (-1)) hx hb dL_refusesStrings_397 (by decide) ?_
  refine lv_icmp_ne (tgt := 482) hx hb dL_refusesStrings_398 (by decide) (fun c9 => absurd c9 (by decide)) (fun _ => ?_)
  refine lv_aload_n hx hb dL_refusesStrings_401 rfl (lv_at hl 4 rfl) ?_
  refine lv_iconst (v := nI 0) hx hb dL_refusesStrings_402 (by decide) ?_
  refine lv_iconst (v := (-1)) hx hb dL_refusesStrings_403 (by decide) ?_
  refine o_call (o := (X, h9, len, Ch)) (As := [.int (nI 0), .int (-1)]) (rest := []) hF (U_stringInfo_i l E tm tl D fs (X, h9, len, Ch) xb (nI 0) (-1) (fun h => absurd h.2 (by decide +kernel))) (cwV 2 hts gL_refusesStrings_X6_stringInfo rfl rfl rfl (by decide +kernel) ⟨Nat.le_of_ble_eq_true rfl, Nat.le_of_ble_eq_true rfl⟩) hG hZ (fun _ h9 => h9) hO hS rfl hl.1 rfl (lv_room (Nat.le_of_ble_eq_true rfl)) dL_refusesStrings_404 ⟨Nat.le_of_ble_eq_true rfl, Nat.le_of_ble_eq_true rfl⟩ (fun r9 o9 HZ locsZ hp hO hS hsz9 hfr9 => ?_)
  obtain ⟨rfl, rfl⟩ := hp
  refine lv_iconst (v := (-1)) hx hb dL_refusesStrings_407 (by decide) ?_
  refine lv_icmp_ne (tgt := 482) hx hb dL_refusesStrings_408 (by decide) (fun c9 => absurd c9 (by decide)) (fun _ => ?_)
  refine lv_aload_n hx hb dL_refusesStrings_411 rfl (lv_at hl 4 rfl) ?_
  refine lv_iconst (v := nI 0) hx hb dL_refusesStrings_412 (by decide) ?_
  refine lv_iconst (v := nI 1) hx hb dL_refusesStrings_413 (by decide) ?_
  refine lv_iconst (v := nI 3) hx hb dL_refusesStrings_414 (by decide) ?_
  refine o_call (o := (X, h9, len, Ch)) (As := [.int (nI 0), .int (nI 1), .int (nI 3)]) (rest := []) hF (U_modeInfo_i l E tm tl D fs (X, h9, len, Ch) xb (nI 0) (nI 1) (nI 3) (fun h => absurd h.2.2 (by decide +kernel))) (cwV 3 hts gL_refusesStrings_X6_modeInfo rfl rfl rfl (by decide +kernel) ⟨Nat.le_of_ble_eq_true rfl, Nat.le_of_ble_eq_true rfl⟩) hG hZ (fun _ h9 => h9) hO hS rfl hl.1 rfl (lv_room (Nat.le_of_ble_eq_true rfl)) dL_refusesStrings_415 ⟨Nat.le_of_ble_eq_true rfl, Nat.le_of_ble_eq_true rfl⟩ (fun r9 o9 HZ locsZ hp hO hS hsz9 hfr9 => ?_)
  obtain ⟨rfl, rfl⟩ := hp
  refine lv_iconst (v := (-1)) hx hb dL_refusesStrings_418 (by decide) ?_
  refine lv_icmp_ne (tgt := 482) hx hb dL_refusesStrings_419 (by decide) (fun c9 => absurd c9 (by decide)) (fun _ => ?_)
  refine lv_aload_n hx hb dL_refusesStrings_422 rfl (lv_at hl 4 rfl) ?_
  refine lv_iconst (v := nI 0) hx hb dL_refusesStrings_423 (by decide) ?_
  refine lv_iconst (v := nI 1) hx hb dL_refusesStrings_424 (by decide) ?_
  refine lv_iconst (v := (-1)) hx hb dL_refusesStrings_425 (by decide) ?_
  refine o_call (o := (X, h9, len, Ch)) (As := [.int (nI 0), .int (nI 1), .int (-1)]) (rest := []) hF (U_modeInfo_i l E tm tl D fs (X, h9, len, Ch) xb (nI 0) (nI 1) (-1) (fun h => absurd h.2.2 (by decide +kernel))) (cwV 3 hts gL_refusesStrings_X6_modeInfo rfl rfl rfl (by decide +kernel) ⟨Nat.le_of_ble_eq_true rfl, Nat.le_of_ble_eq_true rfl⟩) hG hZ (fun _ h9 => h9) hO hS rfl hl.1 rfl (lv_room (Nat.le_of_ble_eq_true rfl)) dL_refusesStrings_426 ⟨Nat.le_of_ble_eq_true rfl, Nat.le_of_ble_eq_true rfl⟩ (fun r9 o9 HZ locsZ hp hO hS hsz9 hfr9 => ?_)
  obtain ⟨rfl, rfl⟩ := hp
  refine lv_iconst (v := (-1)) hx hb dL_refusesStrings_429 (by decide) ?_
  refine lv_icmp_ne (tgt := 482) hx hb dL_refusesStrings_430 (by decide) (fun c9 => absurd c9 (by decide)) (fun _ => ?_)
  refine lv_aload_n hx hb dL_refusesStrings_433 rfl (lv_at hl 4 rfl) ?_
  refine lv_iconst (v := nI 1) hx hb dL_refusesStrings_434 (by decide) ?_
  refine lv_iconst (v := nI 1) hx hb dL_refusesStrings_435 (by decide) ?_
  refine lv_iconst (v := nI 1) hx hb dL_refusesStrings_436 (by decide) ?_
  refine lv_iconst (v := nI 2) hx hb dL_refusesStrings_437 (by decide) ?_
  refine o_call (o := (X, h9, len, Ch)) (As := [.int (nI 1), .int (nI 1), .int (nI 1), .int (nI 2)]) (rest := []) hF (U_beat_i l E tm tl D fs (X, h9, len, Ch) xb (nI 1) (nI 1) (nI 1) (nI 2) (fun h => h.1.2.2 rfl)) (cwV 4 hts gL_refusesStrings_X6_beat rfl rfl rfl (by decide +kernel) ⟨Nat.le_of_ble_eq_true rfl, Nat.le_of_ble_eq_true rfl⟩) hG hZ (fun _ h9 => h9) hO hS rfl hl.1 rfl (lv_room (Nat.le_of_ble_eq_true rfl)) dL_refusesStrings_438 ⟨Nat.le_of_ble_eq_true rfl, Nat.le_of_ble_eq_true rfl⟩ (fun r9 o9 HZ locsZ hp hO hS hsz9 hfr9 => ?_)
  obtain ⟨rfl, rfl⟩ := hp
  refine lv_iconst (v := (-1)) hx hb dL_refusesStrings_441 (by decide) ?_
  refine lv_icmp_ne (tgt := 482) hx hb dL_refusesStrings_442 (by decide) (fun c9 => absurd c9 (by decide)) (fun _ => ?_)
  refine lv_aload_n hx hb dL_refusesStrings_445 rfl (lv_at hl 4 rfl) ?_
  refine lv_iconst (v := nI 1) hx hb dL_refusesStrings_446 (by decide) ?_
  refine lv_iconst (v := nI 1) hx hb dL_refusesStrings_447 (by decide) ?_
  refine lv_iconst (v := nI 0) hx hb dL_refusesStrings_448 (by decide) ?_
  refine o_call (o := (X, h9, len, Ch)) (As := [.int (nI 1), .int (nI 1), .int (nI 0)]) (rest := []) hF (U_slowest_i l E tm tl D fs (X, h9, len, Ch) xb (nI 1) (nI 1) (nI 0) (fun h => h.1.2.2 rfl)) (cwV 3 hts gL_refusesStrings_X6_slowest rfl rfl rfl (by decide +kernel) ⟨Nat.le_of_ble_eq_true rfl, Nat.le_of_ble_eq_true rfl⟩) hG hZ (fun _ h9 => h9) hO hS rfl hl.1 rfl (lv_room (Nat.le_of_ble_eq_true rfl)) dL_refusesStrings_449 ⟨Nat.le_of_ble_eq_true rfl, Nat.le_of_ble_eq_true rfl⟩ (fun r9 o9 HZ locsZ hp hO hS hsz9 hfr9 => ?_)
  obtain ⟨rfl, rfl⟩ := hp
  refine lv_iconst (v := (-1)) hx hb dL_refusesStrings_452 (by decide) ?_
  refine lv_icmp_ne (tgt := 482) hx hb dL_refusesStrings_453 (by decide) (fun c9 => absurd c9 (by decide)) (fun _ => ?_)
  refine lv_aload_n hx hb dL_refusesStrings_456 rfl (lv_at hl 4 rfl) ?_
  refine lv_iconst (v := nI 0) hx hb dL_refusesStrings_457 (by decide) ?_
  refine lv_iconst (v := nI 1) hx hb dL_refusesStrings_458 (by decide) ?_
  refine lv_iconst (v := nI 3) hx hb dL_refusesStrings_459 (by decide) ?_
  refine o_call (o := (X, h9, len, Ch)) (As := [.int (nI 0), .int (nI 1), .int (nI 3)]) (rest := []) hF (U_slowest_i l E tm tl D fs (X, h9, len, Ch) xb (nI 0) (nI 1) (nI 3) (fun h => absurd h.2 (by decide +kernel))) (cwV 3 hts gL_refusesStrings_X6_slowest rfl rfl rfl (by decide +kernel) ⟨Nat.le_of_ble_eq_true rfl, Nat.le_of_ble_eq_true rfl⟩) hG hZ (fun _ h9 => h9) hO hS rfl hl.1 rfl (lv_room (Nat.le_of_ble_eq_true rfl)) dL_refusesStrings_460 ⟨Nat.le_of_ble_eq_true rfl, Nat.le_of_ble_eq_true rfl⟩ (fun r9 o9 HZ locsZ hp hO hS hsz9 hfr9 => ?_)
  obtain ⟨rfl, rfl⟩ := hp
  refine lv_iconst (v := (-1)) hx hb dL_refusesStrings_463 (by decide) ?_
  refine lv_icmp_ne (tgt := 482) hx hb dL_refusesStrings_464 (by decide) (fun c9 => absurd c9 (by decide)) (fun _ => ?_)
  refine lv_aload_n hx hb dL_refusesStrings_467 rfl (lv_at hl 4 rfl) ?_
  refine lv_iconst (v := nI 0) hx hb dL_refusesStrings_468 (by decide) ?_
  refine lv_iconst (v := nI 1) hx hb dL_refusesStrings_469 (by decide) ?_
  refine lv_iconst (v := (-1)) hx hb dL_refusesStrings_470 (by decide) ?_
  refine o_call (o := (X, h9, len, Ch)) (As := [.int (nI 0), .int (nI 1), .int (-1)]) (rest := []) hF (U_slowest_i l E tm tl D fs (X, h9, len, Ch) xb (nI 0) (nI 1) (-1) (fun h => absurd h.2 (by decide +kernel))) (cwV 3 hts gL_refusesStrings_X6_slowest rfl rfl rfl (by decide +kernel) ⟨Nat.le_of_ble_eq_true rfl, Nat.le_of_ble_eq_true rfl⟩) hG hZ (fun _ h9 => h9) hO hS rfl hl.1 rfl (lv_room (Nat.le_of_ble_eq_true rfl)) dL_refusesStrings_471 ⟨Nat.le_of_ble_eq_true rfl, Nat.le_of_ble_eq_true rfl⟩ (fun r9 o9 HZ locsZ hp hO hS hsz9 hfr9 => ?_)
  obtain ⟨rfl, rfl⟩ := hp
  refine lv_iconst (v := (-1)) hx hb dL_refusesStrings_474 (by decide) ?_
  refine lv_icmp_ne (tgt := 482) hx hb dL_refusesStrings_475 (by decide) (fun c9 => absurd c9 (by decide)) (fun _ => ?_)
  refine lv_iconst (v := nI 1) hx hb dL_refusesStrings_478 (by decide) ?_
  refine lv_goto (tgt := 483) hx hb dL_refusesStrings_479 (by decide) ?_
  exact hret _ _ _ _ _ _ hO hS dL_refusesStrings_483 ⟨rfl, rfl⟩
