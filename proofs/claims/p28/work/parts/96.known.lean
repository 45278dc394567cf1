/-! ===== strings that are reckoned by hand ===== -/
theorem iwL_known_X6 : ∀ w ∈ wsX60, w ∈ wsL_known := by decide +kernel
def kX0 : Nat → Nat → Nat := ofL [] [] [] [1000000, 1334000, 1780000, 2375000] [] [] [] [] [] [] [] [] [10, 5, 500, 1000, 50] 0 0 0 0
theorem kXb0 : XB kX0 := by unfold XB; decide +kernel
def kX1 : Nat → Nat → Nat := ofL [] [] [] [1000000, 1334000, 1780000, 2375000] [] [] [1] [] [] [50000, 0, 16666, 0, 10000, 0, 7142, 0, 5555, 0, 4545] [] [1] [10, 5, 500, 1000, 50] 0 1 0 0
theorem kXb1 : XB kX1 := by unfold XB; decide +kernel
def kX2 : Nat → Nat → Nat := ofL [] [] [] [1000000, 1334000, 1780000, 2375000] [] [] [1] [] [] [49499, 0, 16332, 0, 9699, 0, 6856, 0, 5277, 0, 4272] [] [1] [10, 5, 500, 1000, 50] 0 1 1 0
theorem kXb2 : XB kX2 := by unfold XB; decide +kernel
def kX3 : Nat → Nat → Nat := ofL [] [] [] [1000000, 1334000, 1780000, 2375000] [] [840] [1] [] [] [49499, 0, 16332, 0, 9699, 0, 6856, 0, 5277, 0, 4272] [] [1] [10, 5, 500, 1000, 50] 0 1 1 0
theorem kXb3 : XB kX3 := by unfold XB; decide +kernel
def kX4 : Nat → Nat → Nat := ofL [] [] [] [1000000, 1334000, 1780000, 2375000] [] [840] [1] [] [] [24502, 0, 16005, 0, 4704, 0, 3290, 0, 5013, 0, 2007] [] [1] [10, 5, 500, 1000, 50] 0 1 2 0
theorem kXb4 : XB kX4 := by unfold XB; decide +kernel
def kX5 : Nat → Nat → Nat := ofL [] [] [] [1000000, 1334000, 1780000, 2375000] [] [] [1] [] [] [24502, 0, 16005, 0, 4704, 0, 3290, 0, 5013, 0, 2007] [] [1] [10, 5, 500, 1000, 50] 0 1 2 0
theorem kXb5 : XB kX5 := by unfold XB; decide +kernel
def kX6 : Nat → Nat → Nat := ofL [1260] [1000] [] [1000000, 1334000, 1780000, 2375000] [] [] [1] [] [] [24502, 0, 16005, 0, 4704, 0, 3290, 0, 5013, 0, 2007] [] [1] [10, 5, 500, 1000, 50] 1 1 2 0
theorem kXb6 : XB kX6 := by unfold XB; decide +kernel
def kX7 : Nat → Nat → Nat := ofL [420, 1260] [1000, 1000] [] [1000000, 1334000, 1780000, 2375000] [] [] [1] [] [] [24502, 0, 16005, 0, 4704, 0, 3290, 0, 5013, 0, 2007] [] [1] [10, 5, 500, 1000, 50] 2 1 2 0
theorem kXb7 : XB kX7 := by unfold XB; decide +kernel
def kX8 : Nat → Nat → Nat := ofL [420, 1260] [1000, 1000] [] [1000000, 1334000, 1780000, 2375000] [2] [] [1] [2] [1260] [] [] [1] [10, 5, 500, 1000, 50] 2 1 2 0
theorem kXb8 : XB kX8 := by unfold XB; decide +kernel
def kX9 : Nat → Nat → Nat := ofL [420, 1260] [1000, 1000] [] [1000000, 1334000, 1780000, 2375000] [1] [] [1] [1] [420] [] [] [1] [10, 5, 500, 1000, 50] 2 1 2 0
theorem kXb9 : XB kX9 := by unfold XB; decide +kernel
def kX10 : Nat → Nat → Nat := ofL [420, 840, 1260] [1000, 1300, 1000] [] [1000000, 1334000, 1780000, 2375000] [1] [] [1] [2] [840] [] [] [1] [10, 5, 500, 1000, 50] 3 1 2 0
theorem kXb10 : XB kX10 := by unfold XB; decide +kernel
def kX11 : Nat → Nat → Nat := ofL [420, 840, 1260] [999, 1299, 1000] [] [1000000, 1334000, 1780000, 2375000] [1] [] [2] [2] [840] [500000, 0, 166666, 0, 100000, 0, 71428, 0, 55555, 0, 45454] [0, 1] [1, 1] [10, 5, 500, 1000, 50] 3 2 2 2
theorem kXb11 : XB kX11 := by unfold XB; decide +kernel
def kX12 : Nat → Nat → Nat := ofL [420, 840, 1260] [999, 1099, 1000] [] [1000000, 1334000, 1780000, 2375000] [1] [] [2] [1] [420] [] [0, 1] [1, 1] [10, 5, 500, 1000, 50] 3 2 2 2
theorem kXb12 : XB kX12 := by unfold XB; decide +kernel
def kX13 : Nat → Nat → Nat := ofL [420, 840, 1260] [999, 1099, 1000] [] [1000000, 1334000, 1780000, 2375000] [1] [] [2, 1] [1] [420] [0, 0, 0, 0, 0, 0, 0, 0, 0, 0, 0, 0, 50000, 0, 16666, 0, 10000, 0, 7142, 0, 5555, 0, 4545] [0, 1, 13] [1, 1, 0, 0, 0, 0, 0, 0, 0, 0, 0, 0, 0, 1] [10, 5, 500, 1000, 50] 3 3 2 2
theorem kXb13 : XB kX13 := by unfold XB; decide +kernel
def kX14 : Nat → Nat → Nat := ofL [420, 840, 1260] [999, 1099, 1000] [] [1000000, 1334000, 1780000, 2375000] [1] [] [2, 1, 1] [1] [420] [0, 0, 0, 0, 0, 0, 0, 0, 0, 0, 0, 0, 50000, 0, 16666, 0, 10000, 0, 7142, 0, 5555, 0, 4545, 0, 50000, 0, 16666, 0, 10000, 0, 7142, 0, 5555, 0, 4545] [0, 1, 13, 26] [1, 1, 0, 0, 0, 0, 0, 0, 0, 0, 0, 0, 0, 1, 0, 0, 0, 0, 0, 0, 0, 0, 0, 0, 0, 0, 1] [10, 5, 500, 1000, 50] 3 4 2 2
theorem kXb14 : XB kX14 := by unfold XB; decide +kernel
def kX15 : Nat → Nat → Nat := ofL [420, 840, 1260] [999, 1099, 1000] [] [1000000, 1334000, 1334000, 2375000] [1] [] [2, 1, 1] [1] [420] [0, 0, 0, 0, 0, 0, 0, 0, 0, 0, 0, 0, 50000, 0, 16666, 0, 10000, 0, 7142, 0, 5555, 0, 4545, 0, 50000, 0, 16666, 0, 10000, 0, 7142, 0, 5555, 0, 4545] [0, 1, 13, 26] [1, 1, 0, 0, 0, 0, 0, 0, 0, 0, 0, 0, 0, 1, 0, 0, 0, 0, 0, 0, 0, 0, 0, 0, 0, 0, 1] [10, 5, 500, 1000, 50] 3 4 2 2
theorem kXb15 : XB kX15 := by unfold XB; decide +kernel
def kX16 : Nat → Nat → Nat := ofL [420, 840, 1260] [999, 1099, 1000] [] [1000000, 1334000, 1334000, 2375000] [1] [] [2, 1, 1] [1] [420] [0, 0, 0, 0, 0, 0, 0, 0, 0, 0, 0, 0, 0, 0, 0, 0, 0, 0, 0, 0, 0, 0, 0, 0, 50000, 0, 16666, 0, 10000, 0, 7142, 0, 5555, 0, 4545] [0, 1, 13, 26] [1, 1, 0, 0, 0, 0, 0, 0, 0, 0, 0, 0, 0, 1, 0, 0, 0, 0, 0, 0, 0, 0, 0, 0, 0, 0, 1] [10, 5, 500, 1000, 50] 3 4 2 2
theorem kXb16 : XB kX16 := by unfold XB; decide +kernel
def kX17 : Nat → Nat → Nat := ofL [420, 840, 1260] [999, 1099, 1000] [] [1000000, 1334000, 1334000, 2375000] [1] [] [2, 1, 1] [1] [420] [0, 0, 0, 0, 0, 0, 0, 0, 0, 0, 0, 0, 0, 0, 0, 0, 0, 0, 0, 0, 0, 0, 0, 0, 50000, 0, 16666, 0, 10000, 0, 7142, 0, 5555, 0, 4545] [0, 1, 13, 26] [1, 1, 0, 0, 0, 0, 0, 0, 0, 0, 0, 0, 0, 1, 0, 0, 0, 0, 0, 0, 0, 0, 0, 0, 0, 0, 1] [10, 5, 500, 1000, 50] 3 4 2 2
theorem kXb17 : XB kX17 := by unfold XB; decide +kernel
set_option maxHeartbeats 32000000 in
set_option maxRecDepth 100000 in
theorem c_L_known (l : Launch) (E : zE) (tm tl : Nat) : nM l yL_known wsL_known ({ frames := 10, cells := 90, slots := 1284, locals := 233 }) E tm tl 90 1284 := by
  refine nM.start (own := RL) rfl (by (try dsimp only); decide +kernel) rfl ?_
  intro pZ eZ sZ mZ argsZ belowZ methZ cZ QZ hF hret hG hAO hZ ls hl
  obtain ⟨hx, hb, hml, hown, hts⟩ := id hF
  have hA : ∀ q : Nat, sZ.heap.size ≤ q → (fun q : Nat => sZ.heap.size ≤ q) q := fun _ h => h
  generalize hDq : (fun q : Nat => sZ.heap.size ≤ q) = D at hA hZ hret
  have hS : va_S D sZ.heap sZ.heap [] := va_S.rf
  have hP : va_P E.1 vwCl [] sZ.heap := zP_nil
  have hD : va_D D [] := ⟨fun i j p q h => by simp at h, fun k q h => by simp at h⟩
  refine va_new (ci := 6) (fs := [.null, .null, .null]) (C := RX6) (T := TX6) (N := 3) hx hb hts iwL_known_X6 tyX6 tyX6_ok hown (hts (.classLink RL 14 RX6) (by (try dsimp only); decide +kernel)) (hts (.instantiable RX6 3) (by (try dsimp only); decide +kernel)) (hts (.initialized RX6) (by (try dsimp only); decide +kernel)) hG.1 hP hD hS hA rfl (fun j hj => by rcases (show j = 0 ∨ j = 1 ∨ j = 2 by omega) with rfl | rfl | rfl <;> rfl) (Nat.le_of_ble_eq_true rfl) (Nat.le_of_ble_eq_true rfl) dL_known_0 (fun fs HZ hP hD hS => ?_)
  have hP : va_P E.1 vwCl [(fs, .inr (6, [.null, .null, .null]))] _ := hP
  have hD : va_D D [(fs, .inr (6, [.null, .null, .null]))] := hD
  refine lv_dup hx hb dL_known_3 rfl ?_
  refine z_ctor (wr := []) rfl (va_runI (As := []) (rest := [.ref fs]) hF (c_X6_init l E fs HZ.size) (cwI 0 hts gL_known_X6_init rfl rfl rfl (hts (.initialized RX6) (by (try dsimp only); decide +kernel)) (hts (.methodLink RL 112 yX6_init) (by (try dsimp only); decide +kernel)) (hts (.instanceMethod yX6_init) (by (try dsimp only); decide +kernel)) rfl (by (try dsimp only); decide +kernel) ⟨Nat.le_of_ble_eq_true rfl, Nat.le_of_ble_eq_true rfl⟩) (z_preN hP hG hAO) rfl rfl hl.1 rfl (lv_room (Nat.le_of_ble_eq_true rfl)) dL_known_4 ⟨Nat.le_of_ble_eq_true rfl, Nat.le_of_ble_eq_true rfl⟩) hP hD hS hA (fun w9 HZ locsZ hw hP hD hS => ?_)
  obtain ⟨sc, hi, ch, rw, ad, adA, adB, adC, adD, rfl⟩ := hw
  rw [List.nil_append, oW_new] at hP hD
  have hO := HO_new hP hD
  have hO : HO E D fs (kX0, [], 0, c0) HZ := HO_ext (by unfold EQX; decide +kernel) (fun i hi => rfl) hO
  generalize hh0 : ([] : List (Nat → Nat → Nat)) = hh at hO
  refine lv_astore_n (lv' := [(0, .ref fs)]) hx hb dL_known_7 rfl hl (by decide) rfl (fun ls hl => ?_)
  refine lv_aload_n hx hb dL_known_8 rfl (lv_at hl 0 rfl) ?_
  refine o_callS (o := (kX0, hh, 0, c0)) (As := [.ref fs]) (rest := []) hF (c_L_refused l E tm tl D fs (kX0, hh, 0, c0) kXb0 (fun i hi => absurd (show i < 0 from hi) (Nat.not_lt_zero i))) (cwS 1 hts gL_known_L_refused rfl rfl rfl (by decide +kernel) ⟨Nat.le_of_ble_eq_true rfl, Nat.le_of_ble_eq_true rfl⟩) hG hZ (fun _ h9 => h9) hO hS rfl hl.1 rfl (lv_room (Nat.le_of_ble_eq_true rfl)) dL_known_9 ⟨Nat.le_of_ble_eq_true rfl, Nat.le_of_ble_eq_true rfl⟩ (fun r9 o9 HZ locsZ hp hO hS hsz9 hfr9 => ?_)
  obtain ⟨rfl, rfl⟩ := hp
  refine lv_if_eq (tgt := 160) hx hb dL_known_12 (by decide) (fun c9 => absurd c9 (by decide)) (fun _ => ?_)
  refine lv_aload_n hx hb dL_known_15 rfl (lv_at hl 0 rfl) ?_
  refine o_call (o := (kX0, hh, 0, c0)) (As := []) (rest := []) hF (U_undo_p l E tm tl D fs (kX0, hh, 0, c0) hh0.symm) (cwV 0 hts gL_known_X6_undo rfl rfl rfl (by decide +kernel) ⟨Nat.le_of_ble_eq_true rfl, Nat.le_of_ble_eq_true rfl⟩) hG hZ (fun _ h9 => h9) hO hS rfl hl.1 rfl (lv_room (Nat.le_of_ble_eq_true rfl)) dL_known_16 ⟨Nat.le_of_ble_eq_true rfl, Nat.le_of_ble_eq_true rfl⟩ (fun r9 o9 HZ locsZ hp hO hS hsz9 hfr9 => ?_)
  obtain ⟨rfl, rfl⟩ := hp
  refine lv_bipush (v := (-2)) hx hb dL_known_19 (by decide) ?_
  refine lv_icmp_ne (tgt := 160) hx hb dL_known_21 (by decide) (fun c9 => absurd c9 (by decide)) (fun _ => ?_)
  refine lv_aload_n hx hb dL_known_24 rfl (lv_at hl 0 rfl) ?_
  refine lv_iconst (v := nI 0) hx hb dL_known_25 (by decide) ?_
  refine lv_iconst (v := nI 4) hx hb dL_known_26 (by decide) ?_
  refine o_call (o := (kX0, hh, 0, c0)) (As := [.int (nI 0), .int (nI 4)]) (rest := []) hF (U_stringInfo_y l E tm tl D fs (kX0, hh, 0, c0) kXb0 0 4 (by omega) (by omega)) (cwV 2 hts gL_known_X6_stringInfo rfl rfl rfl (by decide +kernel) ⟨Nat.le_of_ble_eq_true rfl, Nat.le_of_ble_eq_true rfl⟩) hG hZ (fun _ h9 => h9) hO hS rfl hl.1 rfl (lv_room (Nat.le_of_ble_eq_true rfl)) dL_known_27 ⟨Nat.le_of_ble_eq_true rfl, Nat.le_of_ble_eq_true rfl⟩ (fun r9 o9 HZ locsZ hp hO hS hsz9 hfr9 => ?_)
  obtain ⟨er, rfl⟩ := hp
  obtain rfl : r9 = nI 2520 := er.trans (by (try dsimp only); decide +kernel)
  refine lv_sipush (v := nI 2520) hx hb dL_known_30 (by decide) ?_
  refine lv_icmp_ne (tgt := 160) hx hb dL_known_33 (by decide) (fun c9 => absurd c9 (by decide)) (fun _ => ?_)
  refine lv_aload_n hx hb dL_known_36 rfl (lv_at hl 0 rfl) ?_
  refine lv_iconst (v := nI 0) hx hb dL_known_37 (by decide) ?_
  refine lv_iconst (v := nI 1) hx hb dL_known_38 (by decide) ?_
  refine lv_iconst (v := nI 1) hx hb dL_known_39 (by decide) ?_
  refine o_call (o := (kX0, hh, 0, c0)) (As := [.int (nI 0), .int (nI 1), .int (nI 1)]) (rest := []) hF (U_modeInfo_y l E tm tl D fs (kX0, hh, 0, c0) kXb0 0 1 1 (by omega) (by omega) (by omega) (by omega)) (cwV 3 hts gL_known_X6_modeInfo rfl rfl rfl (by decide +kernel) ⟨Nat.le_of_ble_eq_true rfl, Nat.le_of_ble_eq_true rfl⟩) hG hZ (fun _ h9 => h9) hO hS rfl hl.1 rfl (lv_room (Nat.le_of_ble_eq_true rfl)) dL_known_40 ⟨Nat.le_of_ble_eq_true rfl, Nat.le_of_ble_eq_true rfl⟩ (fun r9 o9 HZ locsZ hp hO hS hsz9 hfr9 => ?_)
  obtain ⟨er, rfl⟩ := hp
  obtain rfl : r9 = nI 396 := er.trans (by (try dsimp only); decide +kernel)
  refine lv_sipush (v := nI 396) hx hb dL_known_43 (by decide) ?_
  refine lv_icmp_ne (tgt := 160) hx hb dL_known_46 (by decide) (fun c9 => absurd c9 (by decide)) (fun _ => ?_)
  refine lv_aload_n hx hb dL_known_49 rfl (lv_at hl 0 rfl) ?_
  refine lv_iconst (v := nI 0) hx hb dL_known_50 (by decide) ?_
  refine lv_iconst (v := nI 2) hx hb dL_known_51 (by decide) ?_
  refine lv_iconst (v := nI 1) hx hb dL_known_52 (by decide) ?_
  refine o_call (o := (kX0, hh, 0, c0)) (As := [.int (nI 0), .int (nI 2), .int (nI 1)]) (rest := []) hF (U_modeInfo_y l E tm tl D fs (kX0, hh, 0, c0) kXb0 0 2 1 (by omega) (by omega) (by omega) (by omega)) (cwV 3 hts gL_known_X6_modeInfo rfl rfl rfl (by decide +kernel) ⟨Nat.le_of_ble_eq_true rfl, Nat.le_of_ble_eq_true rfl⟩) hG hZ (fun _ h9 => h9) hO hS rfl hl.1 rfl (lv_room (Nat.le_of_ble_eq_true rfl)) dL_known_53 ⟨Nat.le_of_ble_eq_true rfl, Nat.le_of_ble_eq_true rfl⟩ (fun r9 o9 HZ locsZ hp hO hS hsz9 hfr9 => ?_)
  obtain ⟨er, rfl⟩ := hp
  obtain rfl : r9 = nI 793 := er.trans (by (try dsimp only); decide +kernel)
  refine lv_sipush (v := nI 793) hx hb dL_known_56 (by decide) ?_
  refine lv_icmp_ne (tgt := 160) hx hb dL_known_59 (by decide) (fun c9 => absurd c9 (by decide)) (fun _ => ?_)
  refine lv_aload_n hx hb dL_known_62 rfl (lv_at hl 0 rfl) ?_
  refine lv_iconst (v := nI 0) hx hb dL_known_63 (by decide) ?_
  refine lv_bipush (v := nI 12) hx hb dL_known_64 (by decide) ?_
  refine lv_iconst (v := nI 2) hx hb dL_known_66 (by decide) ?_
  refine o_call (o := (kX0, hh, 0, c0)) (As := [.int (nI 0), .int (nI 12), .int (nI 2)]) (rest := []) hF (U_modeInfo_y l E tm tl D fs (kX0, hh, 0, c0) kXb0 0 12 2 (by omega) (by omega) (by omega) (by omega)) (cwV 3 hts gL_known_X6_modeInfo rfl rfl rfl (by decide +kernel) ⟨Nat.le_of_ble_eq_true rfl, Nat.le_of_ble_eq_true rfl⟩) hG hZ (fun _ h9 => h9) hO hS rfl hl.1 rfl (lv_room (Nat.le_of_ble_eq_true rfl)) dL_known_67 ⟨Nat.le_of_ble_eq_true rfl, Nat.le_of_ble_eq_true rfl⟩ (fun r9 o9 HZ locsZ hp hO hS hsz9 hfr9 => ?_)
  obtain ⟨er, rfl⟩ := hp
  obtain rfl : r9 = nI 11 := er.trans (by (try dsimp only); decide +kernel)
  refine lv_bipush (v := nI 11) hx hb dL_known_70 (by decide) ?_
  refine lv_icmp_ne (tgt := 160) hx hb dL_known_72 (by decide) (fun c9 => absurd c9 (by decide)) (fun _ => ?_)
  refine lv_aload_n hx hb dL_known_75 rfl (lv_at hl 0 rfl) ?_
  refine lv_iconst (v := nI 0) hx hb dL_known_76 (by decide) ?_
  refine lv_bipush (v := nI 11) hx hb dL_known_77 (by decide) ?_
  refine lv_iconst (v := nI 2) hx hb dL_known_79 (by decide) ?_
  refine o_call (o := (kX0, hh, 0, c0)) (As := [.int (nI 0), .int (nI 11), .int (nI 2)]) (rest := []) hF (U_modeInfo_y l E tm tl D fs (kX0, hh, 0, c0) kXb0 0 11 2 (by omega) (by omega) (by omega) (by omega)) (cwV 3 hts gL_known_X6_modeInfo rfl rfl rfl (by decide +kernel) ⟨Nat.le_of_ble_eq_true rfl, Nat.le_of_ble_eq_true rfl⟩) hG hZ (fun _ h9 => h9) hO hS rfl hl.1 rfl (lv_room (Nat.le_of_ble_eq_true rfl)) dL_known_80 ⟨Nat.le_of_ble_eq_true rfl, Nat.le_of_ble_eq_true rfl⟩ (fun r9 o9 HZ locsZ hp hO hS hsz9 hfr9 => ?_)
  obtain ⟨er, rfl⟩ := hp
  obtain rfl : r9 = nI 0 := er.trans (by (try dsimp only); decide +kernel)
  refine lv_if_ne (tgt := 160) hx hb dL_known_83 (by decide) (fun c9 => absurd c9 (by decide)) (fun _ => ?_)
  refine lv_aload_n hx hb dL_known_86 rfl (lv_at hl 0 rfl) ?_
  refine lv_iconst (v := nI 0) hx hb dL_known_87 (by decide) ?_
  refine lv_iconst (v := nI 5) hx hb dL_known_88 (by decide) ?_
  refine lv_iconst (v := nI 2) hx hb dL_known_89 (by decide) ?_
  refine o_call (o := (kX0, hh, 0, c0)) (As := [.int (nI 0), .int (nI 5), .int (nI 2)]) (rest := []) hF (U_modeInfo_y l E tm tl D fs (kX0, hh, 0, c0) kXb0 0 5 2 (by omega) (by omega) (by omega) (by omega)) (cwV 3 hts gL_known_X6_modeInfo rfl rfl rfl (by decide +kernel) ⟨Nat.le_of_ble_eq_true rfl, Nat.le_of_ble_eq_true rfl⟩) hG hZ (fun _ h9 => h9) hO hS rfl hl.1 rfl (lv_room (Nat.le_of_ble_eq_true rfl)) dL_known_90 ⟨Nat.le_of_ble_eq_true rfl, Nat.le_of_ble_eq_true rfl⟩ (fun r9 o9 HZ locsZ hp hO hS hsz9 hfr9 => ?_)
  obtain ⟨er, rfl⟩ := hp
  obtain rfl : r9 = nI 4 := er.trans (by (try dsimp only); decide +kernel)
  refine lv_iconst (v := nI 4) hx hb dL_known_93 (by decide) ?_
  refine lv_icmp_ne (tgt := 160) hx hb dL_known_94 (by decide) (fun c9 => absurd c9 (by decide)) (fun _ => ?_)
  refine lv_aload_n hx hb dL_known_97 rfl (lv_at hl 0 rfl) ?_
  refine lv_iconst (v := nI 0) hx hb dL_known_98 (by decide) ?_
  refine lv_iconst (v := nI 2) hx hb dL_known_99 (by decide) ?_
  refine lv_sipush (v := nI 1260) hx hb dL_known_100 (by decide) ?_
  refine o_call (o := (kX0, hh, 0, c0)) (As := [.int (nI 0), .int (nI 2), .int (nI 1260)]) (rest := []) hF (U_node_y l E tm tl D fs (kX0, hh, 0, c0) kXb0 0 2 1260 (by omega) (by omega) (by omega) (by omega) (by omega) (by (try dsimp only); decide +kernel)) (cwV 3 hts gL_known_X6_node rfl rfl rfl (by decide +kernel) ⟨Nat.le_of_ble_eq_true rfl, Nat.le_of_ble_eq_true rfl⟩) hG hZ (fun _ h9 => h9) hO hS rfl hl.1 rfl (lv_room (Nat.le_of_ble_eq_true rfl)) dL_known_103 ⟨Nat.le_of_ble_eq_true rfl, Nat.le_of_ble_eq_true rfl⟩ (fun r9 o9 HZ locsZ hp hO hS hsz9 hfr9 => ?_)
  obtain ⟨er, rfl⟩ := hp
  obtain rfl : r9 = nI 1 := er.trans (show (if dist 2 (1260 - kX0 8 0) (2520 - kX0 8 0) = 0 then nI 1 else nI 0) = nI 1 by decide +kernel)
  refine lv_iconst (v := nI 1) hx hb dL_known_106 (by decide) ?_
  refine lv_icmp_ne (tgt := 160) hx hb dL_known_107 (by decide) (fun c9 => absurd c9 (by decide)) (fun _ => ?_)
  refine lv_aload_n hx hb dL_known_110 rfl (lv_at hl 0 rfl) ?_
  refine lv_iconst (v := nI 0) hx hb dL_known_111 (by decide) ?_
  refine lv_iconst (v := nI 3) hx hb dL_known_112 (by decide) ?_
  refine lv_sipush (v := nI 1260) hx hb dL_known_113 (by decide) ?_
  refine o_call (o := (kX0, hh, 0, c0)) (As := [.int (nI 0), .int (nI 3), .int (nI 1260)]) (rest := []) hF (U_node_y l E tm tl D fs (kX0, hh, 0, c0) kXb0 0 3 1260 (by omega) (by omega) (by omega) (by omega) (by omega) (by (try dsimp only); decide +kernel)) (cwV 3 hts gL_known_X6_node rfl rfl rfl (by decide +kernel) ⟨Nat.le_of_ble_eq_true rfl, Nat.le_of_ble_eq_true rfl⟩) hG hZ (fun _ h9 => h9) hO hS rfl hl.1 rfl (lv_room (Nat.le_of_ble_eq_true rfl)) dL_known_116 ⟨Nat.le_of_ble_eq_true rfl, Nat.le_of_ble_eq_true rfl⟩ (fun r9 o9 HZ locsZ hp hO hS hsz9 hfr9 => ?_)
  obtain ⟨er, rfl⟩ := hp
  obtain rfl : r9 = nI 0 := er.trans (show (if dist 3 (1260 - kX0 8 0) (2520 - kX0 8 0) = 0 then nI 1 else nI 0) = nI 0 by decide +kernel)
  refine lv_if_ne (tgt := 160) hx hb dL_known_119 (by decide) (fun c9 => absurd c9 (by decide)) (fun _ => ?_)
  refine lv_aload_n hx hb dL_known_122 rfl (lv_at hl 0 rfl) ?_
  refine lv_iconst (v := nI 0) hx hb dL_known_123 (by decide) ?_
  refine lv_iconst (v := nI 3) hx hb dL_known_124 (by decide) ?_
  refine lv_sipush (v := nI 840) hx hb dL_known_125 (by decide) ?_
  refine o_call (o := (kX0, hh, 0, c0)) (As := [.int (nI 0), .int (nI 3), .int (nI 840)]) (rest := []) hF (U_node_y l E tm tl D fs (kX0, hh, 0, c0) kXb0 0 3 840 (by omega) (by omega) (by omega) (by omega) (by omega) (by (try dsimp only); decide +kernel)) (cwV 3 hts gL_known_X6_node rfl rfl rfl (by decide +kernel) ⟨Nat.le_of_ble_eq_true rfl, Nat.le_of_ble_eq_true rfl⟩) hG hZ (fun _ h9 => h9) hO hS rfl hl.1 rfl (lv_room (Nat.le_of_ble_eq_true rfl)) dL_known_128 ⟨Nat.le_of_ble_eq_true rfl, Nat.le_of_ble_eq_true rfl⟩ (fun r9 o9 HZ locsZ hp hO hS hsz9 hfr9 => ?_)
  obtain ⟨er, rfl⟩ := hp
  obtain rfl : r9 = nI 1 := er.trans (show (if dist 3 (840 - kX0 8 0) (2520 - kX0 8 0) = 0 then nI 1 else nI 0) = nI 1 by decide +kernel)
  refine lv_iconst (v := nI 1) hx hb dL_known_131 (by decide) ?_
  refine lv_icmp_ne (tgt := 160) hx hb dL_known_132 (by decide) (fun c9 => absurd c9 (by decide)) (fun _ => ?_)
  refine lv_aload_n hx hb dL_known_135 rfl (lv_at hl 0 rfl) ?_
  refine lv_iconst (v := nI 0) hx hb dL_known_136 (by decide) ?_
  refine lv_iconst (v := nI 3) hx hb dL_known_137 (by decide) ?_
  refine lv_sipush (v := nI 840) hx hb dL_known_138 (by decide) ?_
  refine o_call (o := (kX0, hh, 0, c0)) (As := [.int (nI 0), .int (nI 3), .int (nI 840)]) (rest := []) hF (U_nodeAgain_y l E tm tl D fs (kX0, hh, 0, c0) kXb0 0 3 840 (by omega) (by omega) (by omega) (by omega) (by omega) (by (try dsimp only); decide +kernel)) (cwV 3 hts gL_known_X6_nodeAgain rfl rfl rfl (by decide +kernel) ⟨Nat.le_of_ble_eq_true rfl, Nat.le_of_ble_eq_true rfl⟩) hG hZ (fun _ h9 => h9) hO hS rfl hl.1 rfl (lv_room (Nat.le_of_ble_eq_true rfl)) dL_known_141 ⟨Nat.le_of_ble_eq_true rfl, Nat.le_of_ble_eq_true rfl⟩ (fun r9 o9 HZ locsZ hp hO hS hsz9 hfr9 => ?_)
  obtain ⟨er, rfl⟩ := hp
  obtain rfl : r9 = nI 1 := er.trans (show (if 3 % ((2520 - kX0 8 0) / Nat.gcd (2520 - kX0 8 0) (840 - kX0 8 0)) = 0 then nI 1 else nI 0) = nI 1 by decide +kernel)
  refine lv_iconst (v := nI 1) hx hb dL_known_144 (by decide) ?_
  refine lv_icmp_ne (tgt := 160) hx hb dL_known_145 (by decide) (fun c9 => absurd c9 (by decide)) (fun _ => ?_)
  refine lv_aload_n hx hb dL_known_148 rfl (lv_at hl 0 rfl) ?_
  refine lv_iconst (v := nI 0) hx hb dL_known_149 (by decide) ?_
  refine lv_iconst (v := nI 3) hx hb dL_known_150 (by decide) ?_
  refine lv_sipush (v := nI 1260) hx hb dL_known_151 (by decide) ?_
  refine o_call (o := (kX0, hh, 0, c0)) (As := [.int (nI 0), .int (nI 3), .int (nI 1260)]) (rest := []) hF (U_nodeAgain_y l E tm tl D fs (kX0, hh, 0, c0) kXb0 0 3 1260 (by omega) (by omega) (by omega) (by omega) (by omega) (by (try dsimp only); decide +kernel)) (cwV 3 hts gL_known_X6_nodeAgain rfl rfl rfl (by decide +kernel) ⟨Nat.le_of_ble_eq_true rfl, Nat.le_of_ble_eq_true rfl⟩) hG hZ (fun _ h9 => h9) hO hS rfl hl.1 rfl (lv_room (Nat.le_of_ble_eq_true rfl)) dL_known_154 ⟨Nat.le_of_ble_eq_true rfl, Nat.le_of_ble_eq_true rfl⟩ (fun r9 o9 HZ locsZ hp hO hS hsz9 hfr9 => ?_)
  obtain ⟨er, rfl⟩ := hp
  obtain rfl : r9 = nI 0 := er.trans (show (if 3 % ((2520 - kX0 8 0) / Nat.gcd (2520 - kX0 8 0) (1260 - kX0 8 0)) = 0 then nI 1 else nI 0) = nI 0 by decide +kernel)
  refine lv_if_eq (tgt := 162) hx hb dL_known_157 (by decide) (fun _ => ?_) (fun c9 => absurd c9 (by decide))
  refine lv_aload_n hx hb dL_known_162 rfl (lv_at hl 0 rfl) ?_
  refine lv_iconst (v := nI 0) hx hb dL_known_163 (by decide) ?_
  refine lv_sipush (v := nI 1260) hx hb dL_known_164 (by decide) ?_
  refine lv_bipush (v := nI 100) hx hb dL_known_167 (by decide) ?_
  refine o_call (o := (kX0, hh, 0, c0)) (As := [.int (nI 0), .int (nI 1260), .int (nI 100)]) (rest := []) hF (U_pluck_y l E tm tl D fs (kX0, hh, 0, c0) kXb0 0 1260 100 (by omega) (by omega) (by omega) (by omega) (by omega) (by (try dsimp only); decide +kernel)) (cwV 3 hts gL_known_X6_pluck rfl rfl rfl (by decide +kernel) ⟨Nat.le_of_ble_eq_true rfl, Nat.le_of_ble_eq_true rfl⟩) hG hZ (fun _ h9 => h9) hO hS rfl hl.1 rfl (lv_room (Nat.le_of_ble_eq_true rfl)) dL_known_169 ⟨Nat.le_of_ble_eq_true rfl, Nat.le_of_ble_eq_true rfl⟩ (fun r9 o9 HZ locsZ hp hO hS hsz9 hfr9 => ?_)
  obtain ⟨er, rfl⟩ := hp
  obtain rfl : r9 = nI 6 := er.trans (by (try dsimp only); decide +kernel)
  have hO : HO E D fs (kX1, kpH hh kX0, 0, c0) HZ := HO_ext (show EQX (pkX kX0 0 1260 100) kX1 by unfold EQX; decide +kernel) (fun _ _ => rfl) hO
  generalize kpH hh kX0 = hh at hO
  refine lv_bipush (v := nI 6) hx hb dL_known_172 (by decide) ?_
  refine lv_icmp_ne (tgt := 345) hx hb dL_known_174 (by decide) (fun c9 => absurd c9 (by decide)) (fun _ => ?_)
  refine lv_aload_n hx hb dL_known_177 rfl (lv_at hl 0 rfl) ?_
  refine lv_iconst (v := nI 0) hx hb dL_known_178 (by decide) ?_
  refine lv_iconst (v := nI 1) hx hb dL_known_179 (by decide) ?_
  refine lv_iconst (v := nI 0) hx hb dL_known_180 (by decide) ?_
  refine o_call (o := (kX1, hh, 0, c0)) (As := [.int (nI 0), .int (nI 1), .int (nI 0)]) (rest := []) hF (U_modeInfo_y l E tm tl D fs (kX1, hh, 0, c0) kXb1 0 1 0 (by omega) (by omega) (by omega) (by omega)) (cwV 3 hts gL_known_X6_modeInfo rfl rfl rfl (by decide +kernel) ⟨Nat.le_of_ble_eq_true rfl, Nat.le_of_ble_eq_true rfl⟩) hG hZ (fun _ h9 => h9) hO hS rfl hl.1 rfl (lv_room (Nat.le_of_ble_eq_true rfl)) dL_known_181 ⟨Nat.le_of_ble_eq_true rfl, Nat.le_of_ble_eq_true rfl⟩ (fun r9 o9 HZ locsZ hp hO hS hsz9 hfr9 => ?_)
  obtain ⟨er, rfl⟩ := hp
  obtain rfl : r9 = nI 50000 := er.trans (by (try dsimp only); decide +kernel)
  refine lv_ldc (v := nI 50000) hx hb hown (hts (.constant RL 188 50000) (by decide +kernel)) dL_known_184 ?_
  refine lv_icmp_ne (tgt := 345) hx hb dL_known_186 (by decide) (fun c9 => absurd c9 (by decide)) (fun _ => ?_)
  refine lv_aload_n hx hb dL_known_189 rfl (lv_at hl 0 rfl) ?_
  refine lv_iconst (v := nI 0) hx hb dL_known_190 (by decide) ?_
  refine lv_iconst (v := nI 2) hx hb dL_known_191 (by decide) ?_
  refine lv_iconst (v := nI 0) hx hb dL_known_192 (by decide) ?_
  refine o_call (o := (kX1, hh, 0, c0)) (As := [.int (nI 0), .int (nI 2), .int (nI 0)]) (rest := []) hF (U_modeInfo_y l E tm tl D fs (kX1, hh, 0, c0) kXb1 0 2 0 (by omega) (by omega) (by omega) (by omega)) (cwV 3 hts gL_known_X6_modeInfo rfl rfl rfl (by decide +kernel) ⟨Nat.le_of_ble_eq_true rfl, Nat.le_of_ble_eq_true rfl⟩) hG hZ (fun _ h9 => h9) hO hS rfl hl.1 rfl (lv_room (Nat.le_of_ble_eq_true rfl)) dL_known_193 ⟨Nat.le_of_ble_eq_true rfl, Nat.le_of_ble_eq_true rfl⟩ (fun r9 o9 HZ locsZ hp hO hS hsz9 hfr9 => ?_)
  obtain ⟨er, rfl⟩ := hp
  obtain rfl : r9 = nI 0 := er.trans (by (try dsimp only); decide +kernel)
  refine lv_if_ne (tgt := 345) hx hb dL_known_196 (by decide) (fun c9 => absurd c9 (by decide)) (fun _ => ?_)
  refine lv_aload_n hx hb dL_known_199 rfl (lv_at hl 0 rfl) ?_
  refine lv_iconst (v := nI 0) hx hb dL_known_200 (by decide) ?_
  refine lv_iconst (v := nI 3) hx hb dL_known_201 (by decide) ?_
  refine lv_iconst (v := nI 0) hx hb dL_known_202 (by decide) ?_
  refine o_call (o := (kX1, hh, 0, c0)) (As := [.int (nI 0), .int (nI 3), .int (nI 0)]) (rest := []) hF (U_modeInfo_y l E tm tl D fs (kX1, hh, 0, c0) kXb1 0 3 0 (by omega) (by omega) (by omega) (by omega)) (cwV 3 hts gL_known_X6_modeInfo rfl rfl rfl (by decide +kernel) ⟨Nat.le_of_ble_eq_true rfl, Nat.le_of_ble_eq_true rfl⟩) hG hZ (fun _ h9 => h9) hO hS rfl hl.1 rfl (lv_room (Nat.le_of_ble_eq_true rfl)) dL_known_203 ⟨Nat.le_of_ble_eq_true rfl, Nat.le_of_ble_eq_true rfl⟩ (fun r9 o9 HZ locsZ hp hO hS hsz9 hfr9 => ?_)
  obtain ⟨er, rfl⟩ := hp
  obtain rfl : r9 = nI 16666 := er.trans (by (try dsimp only); decide +kernel)
  refine lv_sipush (v := nI 16666) hx hb dL_known_206 (by decide) ?_
  refine lv_icmp_ne (tgt := 345) hx hb dL_known_209 (by decide) (fun c9 => absurd c9 (by decide)) (fun _ => ?_)
  refine lv_aload_n hx hb dL_known_212 rfl (lv_at hl 0 rfl) ?_
  refine lv_iconst (v := nI 0) hx hb dL_known_213 (by decide) ?_
  refine lv_bipush (v := nI 7) hx hb dL_known_214 (by decide) ?_
  refine lv_iconst (v := nI 0) hx hb dL_known_216 (by decide) ?_
  refine o_call (o := (kX1, hh, 0, c0)) (As := [.int (nI 0), .int (nI 7), .int (nI 0)]) (rest := []) hF (U_modeInfo_y l E tm tl D fs (kX1, hh, 0, c0) kXb1 0 7 0 (by omega) (by omega) (by omega) (by omega)) (cwV 3 hts gL_known_X6_modeInfo rfl rfl rfl (by decide +kernel) ⟨Nat.le_of_ble_eq_true rfl, Nat.le_of_ble_eq_true rfl⟩) hG hZ (fun _ h9 => h9) hO hS rfl hl.1 rfl (lv_room (Nat.le_of_ble_eq_true rfl)) dL_known_217 ⟨Nat.le_of_ble_eq_true rfl, Nat.le_of_ble_eq_true rfl⟩ (fun r9 o9 HZ locsZ hp hO hS hsz9 hfr9 => ?_)
  obtain ⟨er, rfl⟩ := hp
  obtain rfl : r9 = nI 7142 := er.trans (by (try dsimp only); decide +kernel)
  refine lv_sipush (v := nI 7142) hx hb dL_known_220 (by decide) ?_
  refine lv_icmp_ne (tgt := 345) hx hb dL_known_223 (by decide) (fun c9 => absurd c9 (by decide)) (fun _ => ?_)
  refine lv_aload_n hx hb dL_known_226 rfl (lv_at hl 0 rfl) ?_
  refine lv_iconst (v := nI 0) hx hb dL_known_227 (by decide) ?_
  refine lv_bipush (v := nI 6) hx hb dL_known_228 (by decide) ?_
  refine o_call (o := (kX1, hh, 0, c0)) (As := [.int (nI 0), .int (nI 6)]) (rest := []) hF (U_stringInfo_y l E tm tl D fs (kX1, hh, 0, c0) kXb1 0 6 (by omega) (by omega)) (cwV 2 hts gL_known_X6_stringInfo rfl rfl rfl (by decide +kernel) ⟨Nat.le_of_ble_eq_true rfl, Nat.le_of_ble_eq_true rfl⟩) hG hZ (fun _ h9 => h9) hO hS rfl hl.1 rfl (lv_room (Nat.le_of_ble_eq_true rfl)) dL_known_230 ⟨Nat.le_of_ble_eq_true rfl, Nat.le_of_ble_eq_true rfl⟩ (fun r9 o9 HZ locsZ hp hO hS hsz9 hfr9 => ?_)
  obtain ⟨er, rfl⟩ := hp
  obtain rfl : r9 = nI 1365 := er.trans (by (try dsimp only); decide +kernel)
  refine lv_sipush (v := nI 1365) hx hb dL_known_233 (by decide) ?_
  refine lv_icmp_ne (tgt := 345) hx hb dL_known_236 (by decide) (fun c9 => absurd c9 (by decide)) (fun _ => ?_)
  refine lv_aload_n hx hb dL_known_239 rfl (lv_at hl 0 rfl) ?_
  refine lv_iconst (v := nI 0) hx hb dL_known_240 (by decide) ?_
  refine lv_bipush (v := nI 7) hx hb dL_known_241 (by decide) ?_
  refine o_call (o := (kX1, hh, 0, c0)) (As := [.int (nI 0), .int (nI 7)]) (rest := []) hF (U_stringInfo_y l E tm tl D fs (kX1, hh, 0, c0) kXb1 0 7 (by omega) (by omega)) (cwV 2 hts gL_known_X6_stringInfo rfl rfl rfl (by decide +kernel) ⟨Nat.le_of_ble_eq_true rfl, Nat.le_of_ble_eq_true rfl⟩) hG hZ (fun _ h9 => h9) hO hS rfl hl.1 rfl (lv_room (Nat.le_of_ble_eq_true rfl)) dL_known_243 ⟨Nat.le_of_ble_eq_true rfl, Nat.le_of_ble_eq_true rfl⟩ (fun r9 o9 HZ locsZ hp hO hS hsz9 hfr9 => ?_)
  obtain ⟨er, rfl⟩ := hp
  obtain rfl : r9 = nI 93908 := er.trans (by (try dsimp only); decide +kernel)
  refine lv_ldc (v := nI 93908) hx hb hown (hts (.constant RL 189 93908) (by decide +kernel)) dL_known_246 ?_
  refine lv_icmp_ne (tgt := 345) hx hb dL_known_248 (by decide) (fun c9 => absurd c9 (by decide)) (fun _ => ?_)
  refine lv_aload_n hx hb dL_known_251 rfl (lv_at hl 0 rfl) ?_
  refine lv_iconst (v := nI 1) hx hb dL_known_252 (by decide) ?_
  refine o_call (o := (kX1, hh, 0, c0)) (As := [.int (nI 1)]) (rest := []) hF (U_run_y l E tm tl D fs (kX1, hh, 0, c0) kXb1 1 (by omega) (by omega) (by (try dsimp only); decide +kernel)) (cwV 1 hts gL_known_X6_run rfl rfl rfl (by decide +kernel) ⟨Nat.le_of_ble_eq_true rfl, Nat.le_of_ble_eq_true rfl⟩) hG hZ (fun _ h9 => h9) hO hS rfl hl.1 rfl (lv_room (Nat.le_of_ble_eq_true rfl)) dL_known_253 ⟨Nat.le_of_ble_eq_true rfl, Nat.le_of_ble_eq_true rfl⟩ (fun r9 o9 HZ locsZ hp hO hS hsz9 hfr9 => ?_)
  obtain ⟨er, rfl⟩ := hp
  obtain rfl : r9 = nI 6 := er.trans (by (try dsimp only); decide +kernel)
  have hO : HO E D fs (kX2, kpH hh kX1, 0, c0) HZ := HO_ext (show EQX (lgX kX1 1) kX2 by unfold EQX; decide +kernel) (fun _ _ => rfl) hO
  generalize kpH hh kX1 = hh at hO
  refine lv_bipush (v := nI 6) hx hb dL_known_256 (by decide) ?_
  refine lv_icmp_ne (tgt := 345) hx hb dL_known_258 (by decide) (fun c9 => absurd c9 (by decide)) (fun _ => ?_)
  refine lv_aload_n hx hb dL_known_261 rfl (lv_at hl 0 rfl) ?_
  refine lv_iconst (v := nI 0) hx hb dL_known_262 (by decide) ?_
  refine lv_iconst (v := nI 1) hx hb dL_known_263 (by decide) ?_
  refine lv_iconst (v := nI 0) hx hb dL_known_264 (by decide) ?_
  refine o_call (o := (kX2, hh, 0, c0)) (As := [.int (nI 0), .int (nI 1), .int (nI 0)]) (rest := []) hF (U_modeInfo_y l E tm tl D fs (kX2, hh, 0, c0) kXb2 0 1 0 (by omega) (by omega) (by omega) (by omega)) (cwV 3 hts gL_known_X6_modeInfo rfl rfl rfl (by decide +kernel) ⟨Nat.le_of_ble_eq_true rfl, Nat.le_of_ble_eq_true rfl⟩) hG hZ (fun _ h9 => h9) hO hS rfl hl.1 rfl (lv_room (Nat.le_of_ble_eq_true rfl)) dL_known_265 ⟨Nat.le_of_ble_eq_true rfl, Nat.le_of_ble_eq_true rfl⟩ (fun r9 o9 HZ locsZ hp hO hS hsz9 hfr9 => ?_)
  obtain ⟨er, rfl⟩ := hp
  obtain rfl : r9 = nI 49499 := er.trans (by (try dsimp only); decide +kernel)
  refine lv_ldc (v := nI 49499) hx hb hown (hts (.constant RL 190 49499) (by decide +kernel)) dL_known_268 ?_
  refine lv_icmp_ne (tgt := 345) hx hb dL_known_270 (by decide) (fun c9 => absurd c9 (by decide)) (fun _ => ?_)
  refine lv_aload_n hx hb dL_known_273 rfl (lv_at hl 0 rfl) ?_
  refine lv_iconst (v := nI 0) hx hb dL_known_274 (by decide) ?_
  refine lv_iconst (v := nI 3) hx hb dL_known_275 (by decide) ?_
  refine lv_iconst (v := nI 0) hx hb dL_known_276 (by decide) ?_
  refine o_call (o := (kX2, hh, 0, c0)) (As := [.int (nI 0), .int (nI 3), .int (nI 0)]) (rest := []) hF (U_modeInfo_y l E tm tl D fs (kX2, hh, 0, c0) kXb2 0 3 0 (by omega) (by omega) (by omega) (by omega)) (cwV 3 hts gL_known_X6_modeInfo rfl rfl rfl (by decide +kernel) ⟨Nat.le_of_ble_eq_true rfl, Nat.le_of_ble_eq_true rfl⟩) hG hZ (fun _ h9 => h9) hO hS rfl hl.1 rfl (lv_room (Nat.le_of_ble_eq_true rfl)) dL_known_277 ⟨Nat.le_of_ble_eq_true rfl, Nat.le_of_ble_eq_true rfl⟩ (fun r9 o9 HZ locsZ hp hO hS hsz9 hfr9 => ?_)
  obtain ⟨er, rfl⟩ := hp
  obtain rfl : r9 = nI 16332 := er.trans (by (try dsimp only); decide +kernel)
  refine lv_sipush (v := nI 16332) hx hb dL_known_280 (by decide) ?_
  refine lv_icmp_ne (tgt := 345) hx hb dL_known_283 (by decide) (fun c9 => absurd c9 (by decide)) (fun _ => ?_)
  refine lv_aload_n hx hb dL_known_286 rfl (lv_at hl 0 rfl) ?_
  refine lv_iconst (v := nI 0) hx hb dL_known_287 (by decide) ?_
  refine lv_sipush (v := nI 840) hx hb dL_known_288 (by decide) ?_
  refine o_call (o := (kX2, hh, 0, c0)) (As := [.int (nI 0), .int (nI 840)]) (rest := []) hF (U_touch_y l E tm tl D fs (kX2, hh, 0, c0) 0 840 (by omega) (by omega)) (cwV 2 hts gL_known_X6_touch rfl rfl rfl (by decide +kernel) ⟨Nat.le_of_ble_eq_true rfl, Nat.le_of_ble_eq_true rfl⟩) hG hZ (fun _ h9 => h9) hO hS rfl hl.1 rfl (lv_room (Nat.le_of_ble_eq_true rfl)) dL_known_291 ⟨Nat.le_of_ble_eq_true rfl, Nat.le_of_ble_eq_true rfl⟩ (fun r9 o9 HZ locsZ hp hO hS hsz9 hfr9 => ?_)
  obtain ⟨er, rfl⟩ := hp
  obtain rfl : r9 = nI 0 := er.trans (by (try dsimp only); decide +kernel)
  have hO : HO E D fs (kX3, kpH hh kX2, 0, c0) HZ := HO_ext (show EQX (toX kX2 0 840) kX3 by unfold EQX; decide +kernel) (fun _ _ => rfl) hO
  generalize kpH hh kX2 = hh at hO
  refine lv_if_ne (tgt := 345) hx hb dL_known_294 (by decide) (fun c9 => absurd c9 (by decide)) (fun _ => ?_)
  refine lv_aload_n hx hb dL_known_297 rfl (lv_at hl 0 rfl) ?_
  refine lv_iconst (v := nI 1) hx hb dL_known_298 (by decide) ?_
  refine o_call (o := (kX3, hh, 0, c0)) (As := [.int (nI 1)]) (rest := []) hF (U_run_y l E tm tl D fs (kX3, hh, 0, c0) kXb3 1 (by omega) (by omega) (by (try dsimp only); decide +kernel)) (cwV 1 hts gL_known_X6_run rfl rfl rfl (by decide +kernel) ⟨Nat.le_of_ble_eq_true rfl, Nat.le_of_ble_eq_true rfl⟩) hG hZ (fun _ h9 => h9) hO hS rfl hl.1 rfl (lv_room (Nat.le_of_ble_eq_true rfl)) dL_known_299 ⟨Nat.le_of_ble_eq_true rfl, Nat.le_of_ble_eq_true rfl⟩ (fun r9 o9 HZ locsZ hp hO hS hsz9 hfr9 => ?_)
  obtain ⟨er, rfl⟩ := hp
  obtain rfl : r9 = nI 6 := er.trans (by (try dsimp only); decide +kernel)
  have hO : HO E D fs (kX4, kpH hh kX3, 0, c0) HZ := HO_ext (show EQX (lgX kX3 1) kX4 by unfold EQX; decide +kernel) (fun _ _ => rfl) hO
  generalize kpH hh kX3 = hh at hO
  refine lv_bipush (v := nI 6) hx hb dL_known_302 (by decide) ?_
  refine lv_icmp_ne (tgt := 345) hx hb dL_known_304 (by decide) (fun c9 => absurd c9 (by decide)) (fun _ => ?_)
  refine lv_aload_n hx hb dL_known_307 rfl (lv_at hl 0 rfl) ?_
  refine lv_iconst (v := nI 0) hx hb dL_known_308 (by decide) ?_
  refine lv_iconst (v := nI 1) hx hb dL_known_309 (by decide) ?_
  refine lv_iconst (v := nI 0) hx hb dL_known_310 (by decide) ?_
  refine o_call (o := (kX4, hh, 0, c0)) (As := [.int (nI 0), .int (nI 1), .int (nI 0)]) (rest := []) hF (U_modeInfo_y l E tm tl D fs (kX4, hh, 0, c0) kXb4 0 1 0 (by omega) (by omega) (by omega) (by omega)) (cwV 3 hts gL_known_X6_modeInfo rfl rfl rfl (by decide +kernel) ⟨Nat.le_of_ble_eq_true rfl, Nat.le_of_ble_eq_true rfl⟩) hG hZ (fun _ h9 => h9) hO hS rfl hl.1 rfl (lv_room (Nat.le_of_ble_eq_true rfl)) dL_known_311 ⟨Nat.le_of_ble_eq_true rfl, Nat.le_of_ble_eq_true rfl⟩ (fun r9 o9 HZ locsZ hp hO hS hsz9 hfr9 => ?_)
  obtain ⟨er, rfl⟩ := hp
  obtain rfl : r9 = nI 24502 := er.trans (by (try dsimp only); decide +kernel)
  refine lv_sipush (v := nI 24502) hx hb dL_known_314 (by decide) ?_
  refine lv_icmp_ne (tgt := 345) hx hb dL_known_317 (by decide) (fun c9 => absurd c9 (by decide)) (fun _ => ?_)
  refine lv_aload_n hx hb dL_known_320 rfl (lv_at hl 0 rfl) ?_
  refine lv_iconst (v := nI 0) hx hb dL_known_321 (by decide) ?_
  refine lv_iconst (v := nI 3) hx hb dL_known_322 (by decide) ?_
  refine lv_iconst (v := nI 0) hx hb dL_known_323 (by decide) ?_
  refine o_call (o := (kX4, hh, 0, c0)) (As := [.int (nI 0), .int (nI 3), .int (nI 0)]) (rest := []) hF (U_modeInfo_y l E tm tl D fs (kX4, hh, 0, c0) kXb4 0 3 0 (by omega) (by omega) (by omega) (by omega)) (cwV 3 hts gL_known_X6_modeInfo rfl rfl rfl (by decide +kernel) ⟨Nat.le_of_ble_eq_true rfl, Nat.le_of_ble_eq_true rfl⟩) hG hZ (fun _ h9 => h9) hO hS rfl hl.1 rfl (lv_room (Nat.le_of_ble_eq_true rfl)) dL_known_324 ⟨Nat.le_of_ble_eq_true rfl, Nat.le_of_ble_eq_true rfl⟩ (fun r9 o9 HZ locsZ hp hO hS hsz9 hfr9 => ?_)
  obtain ⟨er, rfl⟩ := hp
  obtain rfl : r9 = nI 16005 := er.trans (by (try dsimp only); decide +kernel)
  refine lv_sipush (v := nI 16005) hx hb dL_known_327 (by decide) ?_
  refine lv_icmp_ne (tgt := 345) hx hb dL_known_330 (by decide) (fun c9 => absurd c9 (by decide)) (fun _ => ?_)
  refine lv_aload_n hx hb dL_known_333 rfl (lv_at hl 0 rfl) ?_
  refine lv_iconst (v := nI 0) hx hb dL_known_334 (by decide) ?_
  refine lv_iconst (v := nI 0) hx hb dL_known_335 (by decide) ?_
  refine o_call (o := (kX4, hh, 0, c0)) (As := [.int (nI 0), .int (nI 0)]) (rest := []) hF (U_touch_y l E tm tl D fs (kX4, hh, 0, c0) 0 0 (by omega) (by omega)) (cwV 2 hts gL_known_X6_touch rfl rfl rfl (by decide +kernel) ⟨Nat.le_of_ble_eq_true rfl, Nat.le_of_ble_eq_true rfl⟩) hG hZ (fun _ h9 => h9) hO hS rfl hl.1 rfl (lv_room (Nat.le_of_ble_eq_true rfl)) dL_known_336 ⟨Nat.le_of_ble_eq_true rfl, Nat.le_of_ble_eq_true rfl⟩ (fun r9 o9 HZ locsZ hp hO hS hsz9 hfr9 => ?_)
  obtain ⟨er, rfl⟩ := hp
  obtain rfl : r9 = nI 840 := er.trans (by (try dsimp only); decide +kernel)
  have hO : HO E D fs (kX5, kpH hh kX4, 0, c0) HZ := HO_ext (show EQX (toX kX4 0 0) kX5 by unfold EQX; decide +kernel) (fun _ _ => rfl) hO
  generalize kpH hh kX4 = hh at hO
  refine lv_sipush (v := nI 840) hx hb dL_known_339 (by decide) ?_
  refine lv_icmp_eq (tgt := 347) hx hb dL_known_342 (by decide) (fun _ => ?_) (fun c9 => absurd c9 (by decide))
  refine lv_aload_n hx hb dL_known_347 rfl (lv_at hl 0 rfl) ?_
  refine lv_sipush (v := nI 1260) hx hb dL_known_348 (by decide) ?_
  refine lv_sipush (v := nI 1000) hx hb dL_known_351 (by decide) ?_
  refine o_call (o := (kX5, hh, 0, c0)) (As := [.int (nI 1260), .int (nI 1000)]) (rest := []) hF (U_fret_y l E tm tl D fs (kX5, hh, 0, c0) kXb5 1260 1000 (by omega) (by omega) (by omega) (by (try dsimp only); decide +kernel) (by (try dsimp only); decide +kernel)) (cwV 2 hts gL_known_X6_fret rfl rfl rfl (by decide +kernel) ⟨Nat.le_of_ble_eq_true rfl, Nat.le_of_ble_eq_true rfl⟩) hG hZ (fun _ h9 => h9) hO hS rfl hl.1 rfl (lv_room (Nat.le_of_ble_eq_true rfl)) dL_known_354 ⟨Nat.le_of_ble_eq_true rfl, Nat.le_of_ble_eq_true rfl⟩ (fun r9 o9 HZ locsZ hp hO hS hsz9 hfr9 => ?_)
  obtain ⟨er, rfl⟩ := hp
  obtain rfl : r9 = nI 1 := er.trans (by (try dsimp only); decide +kernel)
  have hO : HO E D fs (kX6, kpH hh kX5, 0, c0) HZ := HO_ext (show EQX (frX kX5 1260 1000) kX6 by unfold EQX; decide +kernel) (fun _ _ => rfl) hO
  generalize kpH hh kX5 = hh at hO
  refine lv_iconst (v := nI 1) hx hb dL_known_357 (by decide) ?_
  refine lv_icmp_ne (tgt := 578) hx hb dL_known_358 (by decide) (fun c9 => absurd c9 (by decide)) (fun _ => ?_)
  refine lv_aload_n hx hb dL_known_361 rfl (lv_at hl 0 rfl) ?_
  refine lv_sipush (v := nI 420) hx hb dL_known_362 (by decide) ?_
  refine lv_sipush (v := nI 1000) hx hb dL_known_365 (by decide) ?_
  refine o_call (o := (kX6, hh, 0, c0)) (As := [.int (nI 420), .int (nI 1000)]) (rest := []) hF (U_fret_y l E tm tl D fs (kX6, hh, 0, c0) kXb6 420 1000 (by omega) (by omega) (by omega) (by (try dsimp only); decide +kernel) (by (try dsimp only); decide +kernel)) (cwV 2 hts gL_known_X6_fret rfl rfl rfl (by decide +kernel) ⟨Nat.le_of_ble_eq_true rfl, Nat.le_of_ble_eq_true rfl⟩) hG hZ (fun _ h9 => h9) hO hS rfl hl.1 rfl (lv_room (Nat.le_of_ble_eq_true rfl)) dL_known_368 ⟨Nat.le_of_ble_eq_true rfl, Nat.le_of_ble_eq_true rfl⟩ (fun r9 o9 HZ locsZ hp hO hS hsz9 hfr9 => ?_)
  obtain ⟨er, rfl⟩ := hp
  obtain rfl : r9 = nI 1 := er.trans (by (try dsimp only); decide +kernel)
  have hO : HO E D fs (kX7, kpH hh kX6, 0, c0) HZ := HO_ext (show EQX (frX kX6 420 1000) kX7 by unfold EQX; decide +kernel) (fun _ _ => rfl) hO
  generalize kpH hh kX6 = hh at hO
  refine lv_iconst (v := nI 1) hx hb dL_known_371 (by decide) ?_
  refine lv_icmp_ne (tgt := 578) hx hb dL_known_372 (by decide) (fun c9 => absurd c9 (by decide)) (fun _ => ?_)
  refine lv_aload_n hx hb dL_known_375 rfl (lv_at hl 0 rfl) ?_
  refine lv_sipush (v := nI 420) hx hb dL_known_376 (by decide) ?_
  refine lv_iconst (v := nI 5) hx hb dL_known_379 (by decide) ?_
  refine o_call (o := (kX7, hh, 0, c0)) (As := [.int (nI 420), .int (nI 5)]) (rest := []) hF (U_fret_p l E tm tl D fs (kX7, hh, 0, c0) kXb7 420 5 (by omega) (by omega) (by omega) ⟨0, by (try dsimp only); decide +kernel, by (try dsimp only); decide +kernel⟩) (cwV 2 hts gL_known_X6_fret rfl rfl rfl (by decide +kernel) ⟨Nat.le_of_ble_eq_true rfl, Nat.le_of_ble_eq_true rfl⟩) hG hZ (fun _ h9 => h9) hO hS rfl hl.1 rfl (lv_room (Nat.le_of_ble_eq_true rfl)) dL_known_380 ⟨Nat.le_of_ble_eq_true rfl, Nat.le_of_ble_eq_true rfl⟩ (fun r9 o9 HZ locsZ hp hO hS hsz9 hfr9 => ?_)
  obtain ⟨rfl, rfl⟩ := hp
  refine lv_bipush (v := (-2)) hx hb dL_known_383 (by decide) ?_
  refine lv_icmp_ne (tgt := 578) hx hb dL_known_385 (by decide) (fun c9 => absurd c9 (by decide)) (fun _ => ?_)
  refine lv_aload_n hx hb dL_known_388 rfl (lv_at hl 0 rfl) ?_
  refine lv_iconst (v := nI 0) hx hb dL_known_389 (by decide) ?_
  refine lv_bipush (v := nI 7) hx hb dL_known_390 (by decide) ?_
  refine o_call (o := (kX7, hh, 0, c0)) (As := [.int (nI 0), .int (nI 7)]) (rest := []) hF (U_stringInfo_y l E tm tl D fs (kX7, hh, 0, c0) kXb7 0 7 (by omega) (by omega)) (cwV 2 hts gL_known_X6_stringInfo rfl rfl rfl (by decide +kernel) ⟨Nat.le_of_ble_eq_true rfl, Nat.le_of_ble_eq_true rfl⟩) hG hZ (fun _ h9 => h9) hO hS rfl hl.1 rfl (lv_room (Nat.le_of_ble_eq_true rfl)) dL_known_392 ⟨Nat.le_of_ble_eq_true rfl, Nat.le_of_ble_eq_true rfl⟩ (fun r9 o9 HZ locsZ hp hO hS hsz9 hfr9 => ?_)
  obtain ⟨er, rfl⟩ := hp
  obtain rfl : r9 = nI 55521 := er.trans (by (try dsimp only); decide +kernel)
  refine lv_if_eq (tgt := 578) hx hb dL_known_395 (by decide) (fun c9 => absurd c9 (by decide)) (fun _ => ?_)
  refine lv_aload_n hx hb dL_known_398 rfl (lv_at hl 0 rfl) ?_
  refine lv_iconst (v := nI 0) hx hb dL_known_399 (by decide) ?_
  refine lv_iconst (v := nI 2) hx hb dL_known_400 (by decide) ?_
  refine o_call (o := (kX7, hh, 0, c0)) (As := [.int (nI 0), .int (nI 2)]) (rest := []) hF (U_press_y l E tm tl D fs (kX7, hh, 0, c0) kXb7 0 2 (by omega) (by (try dsimp only); decide +kernel)) (cwV 2 hts gL_known_X6_press rfl rfl rfl (by decide +kernel) ⟨Nat.le_of_ble_eq_true rfl, Nat.le_of_ble_eq_true rfl⟩) hG hZ (fun _ h9 => h9) hO hS rfl hl.1 rfl (lv_room (Nat.le_of_ble_eq_true rfl)) dL_known_401 ⟨Nat.le_of_ble_eq_true rfl, Nat.le_of_ble_eq_true rfl⟩ (fun r9 o9 HZ locsZ hp hO hS hsz9 hfr9 => ?_)
  obtain ⟨er, rfl⟩ := hp
  obtain rfl : r9 = nI 1260 := er.trans (by (try dsimp only); decide +kernel)
  have hO : HO E D fs (kX8, kpH hh kX7, 0, c0) HZ := HO_ext (show EQX (prX kX7 0 2) kX8 by unfold EQX; decide +kernel) (fun _ _ => rfl) hO
  generalize kpH hh kX7 = hh at hO
  refine lv_sipush (v := nI 1260) hx hb dL_known_404 (by decide) ?_
  refine lv_icmp_ne (tgt := 578) hx hb dL_known_407 (by decide) (fun c9 => absurd c9 (by decide)) (fun _ => ?_)
  refine lv_aload_n hx hb dL_known_410 rfl (lv_at hl 0 rfl) ?_
  refine lv_iconst (v := nI 0) hx hb dL_known_411 (by decide) ?_
  refine lv_bipush (v := nI 7) hx hb dL_known_412 (by decide) ?_
  refine o_call (o := (kX8, hh, 0, c0)) (As := [.int (nI 0), .int (nI 7)]) (rest := []) hF (U_stringInfo_y l E tm tl D fs (kX8, hh, 0, c0) kXb8 0 7 (by omega) (by omega)) (cwV 2 hts gL_known_X6_stringInfo rfl rfl rfl (by decide +kernel) ⟨Nat.le_of_ble_eq_true rfl, Nat.le_of_ble_eq_true rfl⟩) hG hZ (fun _ h9 => h9) hO hS rfl hl.1 rfl (lv_room (Nat.le_of_ble_eq_true rfl)) dL_known_414 ⟨Nat.le_of_ble_eq_true rfl, Nat.le_of_ble_eq_true rfl⟩ (fun r9 o9 HZ locsZ hp hO hS hsz9 hfr9 => ?_)
  obtain ⟨er, rfl⟩ := hp
  obtain rfl : r9 = nI 0 := er.trans (by (try dsimp only); decide +kernel)
  refine lv_if_ne (tgt := 578) hx hb dL_known_417 (by decide) (fun c9 => absurd c9 (by decide)) (fun _ => ?_)
  refine lv_aload_n hx hb dL_known_420 rfl (lv_at hl 0 rfl) ?_
  refine lv_iconst (v := nI 0) hx hb dL_known_421 (by decide) ?_
  refine lv_iconst (v := nI 2) hx hb dL_known_422 (by decide) ?_
  refine o_call (o := (kX8, hh, 0, c0)) (As := [.int (nI 0), .int (nI 2)]) (rest := []) hF (U_stringInfo_y l E tm tl D fs (kX8, hh, 0, c0) kXb8 0 2 (by omega) (by omega)) (cwV 2 hts gL_known_X6_stringInfo rfl rfl rfl (by decide +kernel) ⟨Nat.le_of_ble_eq_true rfl, Nat.le_of_ble_eq_true rfl⟩) hG hZ (fun _ h9 => h9) hO hS rfl hl.1 rfl (lv_room (Nat.le_of_ble_eq_true rfl)) dL_known_423 ⟨Nat.le_of_ble_eq_true rfl, Nat.le_of_ble_eq_true rfl⟩ (fun r9 o9 HZ locsZ hp hO hS hsz9 hfr9 => ?_)
  obtain ⟨er, rfl⟩ := hp
  obtain rfl : r9 = nI 2 := er.trans (by (try dsimp only); decide +kernel)
  refine lv_iconst (v := nI 2) hx hb dL_known_426 (by decide) ?_
  refine lv_icmp_ne (tgt := 578) hx hb dL_known_427 (by decide) (fun c9 => absurd c9 (by decide)) (fun _ => ?_)
  refine lv_aload_n hx hb dL_known_430 rfl (lv_at hl 0 rfl) ?_
  refine lv_iconst (v := nI 0) hx hb dL_known_431 (by decide) ?_
  refine lv_iconst (v := nI 3) hx hb dL_known_432 (by decide) ?_
  refine o_call (o := (kX8, hh, 0, c0)) (As := [.int (nI 0), .int (nI 3)]) (rest := []) hF (U_stringInfo_y l E tm tl D fs (kX8, hh, 0, c0) kXb8 0 3 (by omega) (by omega)) (cwV 2 hts gL_known_X6_stringInfo rfl rfl rfl (by decide +kernel) ⟨Nat.le_of_ble_eq_true rfl, Nat.le_of_ble_eq_true rfl⟩) hG hZ (fun _ h9 => h9) hO hS rfl hl.1 rfl (lv_room (Nat.le_of_ble_eq_true rfl)) dL_known_433 ⟨Nat.le_of_ble_eq_true rfl, Nat.le_of_ble_eq_true rfl⟩ (fun r9 o9 HZ locsZ hp hO hS hsz9 hfr9 => ?_)
  obtain ⟨er, rfl⟩ := hp
  obtain rfl : r9 = nI 0 := er.trans (by (try dsimp only); decide +kernel)
  refine lv_if_ne (tgt := 578) hx hb dL_known_436 (by decide) (fun c9 => absurd c9 (by decide)) (fun _ => ?_)
  refine lv_aload_n hx hb dL_known_439 rfl (lv_at hl 0 rfl) ?_
  refine lv_iconst (v := nI 0) hx hb dL_known_440 (by decide) ?_
  refine lv_iconst (v := nI 1) hx hb dL_known_441 (by decide) ?_
  refine o_call (o := (kX8, hh, 0, c0)) (As := [.int (nI 0), .int (nI 1)]) (rest := []) hF (U_press_y l E tm tl D fs (kX8, hh, 0, c0) kXb8 0 1 (by omega) (by (try dsimp only); decide +kernel)) (cwV 2 hts gL_known_X6_press rfl rfl rfl (by decide +kernel) ⟨Nat.le_of_ble_eq_true rfl, Nat.le_of_ble_eq_true rfl⟩) hG hZ (fun _ h9 => h9) hO hS rfl hl.1 rfl (lv_room (Nat.le_of_ble_eq_true rfl)) dL_known_442 ⟨Nat.le_of_ble_eq_true rfl, Nat.le_of_ble_eq_true rfl⟩ (fun r9 o9 HZ locsZ hp hO hS hsz9 hfr9 => ?_)
  obtain ⟨er, rfl⟩ := hp
  obtain rfl : r9 = nI 2100 := er.trans (by (try dsimp only); decide +kernel)
  have hO : HO E D fs (kX9, kpH hh kX8, 0, c0) HZ := HO_ext (show EQX (prX kX8 0 1) kX9 by unfold EQX; decide +kernel) (fun _ _ => rfl) hO
  generalize kpH hh kX8 = hh at hO
  refine lv_sipush (v := nI 2100) hx hb dL_known_445 (by decide) ?_
  refine lv_icmp_ne (tgt := 578) hx hb dL_known_448 (by decide) (fun c9 => absurd c9 (by decide)) (fun _ => ?_)
  refine lv_aload_n hx hb dL_known_451 rfl (lv_at hl 0 rfl) ?_
  refine lv_iconst (v := nI 2) hx hb dL_known_452 (by decide) ?_
  refine o_call (o := (kX9, hh, 0, c0)) (As := [.int (nI 2)]) (rest := []) hF (U_mostFor_y l E tm tl D fs (kX9, hh, 0, c0) kXb9 2 (by omega) (by (try dsimp only); decide +kernel)) (cwV 1 hts gL_known_X6_mostFor rfl rfl rfl (by decide +kernel) ⟨Nat.le_of_ble_eq_true rfl, Nat.le_of_ble_eq_true rfl⟩) hG hZ (fun _ h9 => h9) hO hS rfl hl.1 rfl (lv_room (Nat.le_of_ble_eq_true rfl)) dL_known_453 ⟨Nat.le_of_ble_eq_true rfl, Nat.le_of_ble_eq_true rfl⟩ (fun r9 o9 HZ locsZ hp hO hS hsz9 hfr9 => ?_)
  obtain ⟨er, rfl⟩ := hp
  obtain rfl : r9 = nI 1200 := er.trans (by (try dsimp only); decide +kernel)
  refine lv_sipush (v := nI 1200) hx hb dL_known_456 (by decide) ?_
  refine lv_icmp_ne (tgt := 578) hx hb dL_known_459 (by decide) (fun c9 => absurd c9 (by decide)) (fun _ => ?_)
  refine lv_aload_n hx hb dL_known_462 rfl (lv_at hl 0 rfl) ?_
  refine lv_iconst (v := nI 1) hx hb dL_known_463 (by decide) ?_
  refine o_call (o := (kX9, hh, 0, c0)) (As := [.int (nI 1)]) (rest := []) hF (U_mostFor_y l E tm tl D fs (kX9, hh, 0, c0) kXb9 1 (by omega) (by (try dsimp only); decide +kernel)) (cwV 1 hts gL_known_X6_mostFor rfl rfl rfl (by decide +kernel) ⟨Nat.le_of_ble_eq_true rfl, Nat.le_of_ble_eq_true rfl⟩) hG hZ (fun _ h9 => h9) hO hS rfl hl.1 rfl (lv_room (Nat.le_of_ble_eq_true rfl)) dL_known_464 ⟨Nat.le_of_ble_eq_true rfl, Nat.le_of_ble_eq_true rfl⟩ (fun r9 o9 HZ locsZ hp hO hS hsz9 hfr9 => ?_)
  obtain ⟨er, rfl⟩ := hp
  obtain rfl : r9 = nI 2000 := er.trans (by (try dsimp only); decide +kernel)
  refine lv_sipush (v := nI 2000) hx hb dL_known_467 (by decide) ?_
  refine lv_icmp_ne (tgt := 578) hx hb dL_known_470 (by decide) (fun c9 => absurd c9 (by decide)) (fun _ => ?_)
  refine lv_aload_n hx hb dL_known_473 rfl (lv_at hl 0 rfl) ?_
  refine lv_sipush (v := nI 840) hx hb dL_known_474 (by decide) ?_
  refine lv_sipush (v := nI 1300) hx hb dL_known_477 (by decide) ?_
  refine o_call (o := (kX9, hh, 0, c0)) (As := [.int (nI 840), .int (nI 1300)]) (rest := []) hF (U_fret_y l E tm tl D fs (kX9, hh, 0, c0) kXb9 840 1300 (by omega) (by omega) (by omega) (by (try dsimp only); decide +kernel) (by (try dsimp only); decide +kernel)) (cwV 2 hts gL_known_X6_fret rfl rfl rfl (by decide +kernel) ⟨Nat.le_of_ble_eq_true rfl, Nat.le_of_ble_eq_true rfl⟩) hG hZ (fun _ h9 => h9) hO hS rfl hl.1 rfl (lv_room (Nat.le_of_ble_eq_true rfl)) dL_known_480 ⟨Nat.le_of_ble_eq_true rfl, Nat.le_of_ble_eq_true rfl⟩ (fun r9 o9 HZ locsZ hp hO hS hsz9 hfr9 => ?_)
  obtain ⟨er, rfl⟩ := hp
  obtain rfl : r9 = nI 2 := er.trans (by (try dsimp only); decide +kernel)
  have hO : HO E D fs (kX10, kpH hh kX9, 0, c0) HZ := HO_ext (show EQX (frX kX9 840 1300) kX10 by unfold EQX; decide +kernel) (fun _ _ => rfl) hO
  generalize kpH hh kX9 = hh at hO
  refine lv_iconst (v := nI 2) hx hb dL_known_483 (by decide) ?_
  refine lv_icmp_ne (tgt := 578) hx hb dL_known_484 (by decide) (fun c9 => absurd c9 (by decide)) (fun _ => ?_)
  refine lv_aload_n hx hb dL_known_487 rfl (lv_at hl 0 rfl) ?_
  refine lv_iconst (v := nI 0) hx hb dL_known_488 (by decide) ?_
  refine lv_iconst (v := nI 2) hx hb dL_known_489 (by decide) ?_
  refine o_call (o := (kX10, hh, 0, c0)) (As := [.int (nI 0), .int (nI 2)]) (rest := []) hF (U_stringInfo_y l E tm tl D fs (kX10, hh, 0, c0) kXb10 0 2 (by omega) (by omega)) (cwV 2 hts gL_known_X6_stringInfo rfl rfl rfl (by decide +kernel) ⟨Nat.le_of_ble_eq_true rfl, Nat.le_of_ble_eq_true rfl⟩) hG hZ (fun _ h9 => h9) hO hS rfl hl.1 rfl (lv_room (Nat.le_of_ble_eq_true rfl)) dL_known_490 ⟨Nat.le_of_ble_eq_true rfl, Nat.le_of_ble_eq_true rfl⟩ (fun r9 o9 HZ locsZ hp hO hS hsz9 hfr9 => ?_)
  obtain ⟨er, rfl⟩ := hp
  obtain rfl : r9 = nI 2 := er.trans (by (try dsimp only); decide +kernel)
  refine lv_iconst (v := nI 2) hx hb dL_known_493 (by decide) ?_
  refine lv_icmp_ne (tgt := 578) hx hb dL_known_494 (by decide) (fun c9 => absurd c9 (by decide)) (fun _ => ?_)
  refine lv_aload_n hx hb dL_known_497 rfl (lv_at hl 0 rfl) ?_
  refine lv_iconst (v := nI 0) hx hb dL_known_498 (by decide) ?_
  refine lv_iconst (v := nI 3) hx hb dL_known_499 (by decide) ?_
  refine o_call (o := (kX10, hh, 0, c0)) (As := [.int (nI 0), .int (nI 3)]) (rest := []) hF (U_stringInfo_y l E tm tl D fs (kX10, hh, 0, c0) kXb10 0 3 (by omega) (by omega)) (cwV 2 hts gL_known_X6_stringInfo rfl rfl rfl (by decide +kernel) ⟨Nat.le_of_ble_eq_true rfl, Nat.le_of_ble_eq_true rfl⟩) hG hZ (fun _ h9 => h9) hO hS rfl hl.1 rfl (lv_room (Nat.le_of_ble_eq_true rfl)) dL_known_500 ⟨Nat.le_of_ble_eq_true rfl, Nat.le_of_ble_eq_true rfl⟩ (fun r9 o9 HZ locsZ hp hO hS hsz9 hfr9 => ?_)
  obtain ⟨er, rfl⟩ := hp
  obtain rfl : r9 = nI 1 := er.trans (by (try dsimp only); decide +kernel)
  refine lv_iconst (v := nI 1) hx hb dL_known_503 (by decide) ?_
  refine lv_icmp_ne (tgt := 578) hx hb dL_known_504 (by decide) (fun c9 => absurd c9 (by decide)) (fun _ => ?_)
  refine lv_aload_n hx hb dL_known_507 rfl (lv_at hl 0 rfl) ?_
  refine lv_iconst (v := nI 0) hx hb dL_known_508 (by decide) ?_
  refine lv_iconst (v := nI 4) hx hb dL_known_509 (by decide) ?_
  refine o_call (o := (kX10, hh, 0, c0)) (As := [.int (nI 0), .int (nI 4)]) (rest := []) hF (U_stringInfo_y l E tm tl D fs (kX10, hh, 0, c0) kXb10 0 4 (by omega) (by omega)) (cwV 2 hts gL_known_X6_stringInfo rfl rfl rfl (by decide +kernel) ⟨Nat.le_of_ble_eq_true rfl, Nat.le_of_ble_eq_true rfl⟩) hG hZ (fun _ h9 => h9) hO hS rfl hl.1 rfl (lv_room (Nat.le_of_ble_eq_true rfl)) dL_known_510 ⟨Nat.le_of_ble_eq_true rfl, Nat.le_of_ble_eq_true rfl⟩ (fun r9 o9 HZ locsZ hp hO hS hsz9 hfr9 => ?_)
  obtain ⟨er, rfl⟩ := hp
  obtain rfl : r9 = nI 1680 := er.trans (by (try dsimp only); decide +kernel)
  refine lv_sipush (v := nI 1680) hx hb dL_known_513 (by decide) ?_
  refine lv_icmp_ne (tgt := 578) hx hb dL_known_516 (by decide) (fun c9 => absurd c9 (by decide)) (fun _ => ?_)
  refine lv_aload_n hx hb dL_known_519 rfl (lv_at hl 0 rfl) ?_
  refine lv_iconst (v := nI 1) hx hb dL_known_520 (by decide) ?_
  refine lv_iconst (v := nI 5) hx hb dL_known_521 (by decide) ?_
  refine o_call (o := (kX10, hh, 0, c0)) (As := [.int (nI 1), .int (nI 5)]) (rest := []) hF (U_fretInfo_y l E tm tl D fs (kX10, hh, 0, c0) kXb10 1 5 (by omega) (by (try dsimp only); decide +kernel) (by omega)) (cwV 2 hts gL_known_X6_fretInfo rfl rfl rfl (by decide +kernel) ⟨Nat.le_of_ble_eq_true rfl, Nat.le_of_ble_eq_true rfl⟩) hG hZ (fun _ h9 => h9) hO hS rfl hl.1 rfl (lv_room (Nat.le_of_ble_eq_true rfl)) dL_known_522 ⟨Nat.le_of_ble_eq_true rfl, Nat.le_of_ble_eq_true rfl⟩ (fun r9 o9 HZ locsZ hp hO hS hsz9 hfr9 => ?_)
  obtain ⟨er, rfl⟩ := hp
  obtain rfl : r9 = nI 2 := er.trans (by (try dsimp only); decide +kernel)
  refine lv_iconst (v := nI 2) hx hb dL_known_525 (by decide) ?_
  refine lv_icmp_ne (tgt := 578) hx hb dL_known_526 (by decide) (fun c9 => absurd c9 (by decide)) (fun _ => ?_)
  refine lv_aload_n hx hb dL_known_529 rfl (lv_at hl 0 rfl) ?_
  refine lv_iconst (v := nI 1) hx hb dL_known_530 (by decide) ?_
  refine lv_iconst (v := nI 3) hx hb dL_known_531 (by decide) ?_
  refine o_call (o := (kX10, hh, 0, c0)) (As := [.int (nI 1), .int (nI 3)]) (rest := []) hF (U_fretInfo_y l E tm tl D fs (kX10, hh, 0, c0) kXb10 1 3 (by omega) (by (try dsimp only); decide +kernel) (by omega)) (cwV 2 hts gL_known_X6_fretInfo rfl rfl rfl (by decide +kernel) ⟨Nat.le_of_ble_eq_true rfl, Nat.le_of_ble_eq_true rfl⟩) hG hZ (fun _ h9 => h9) hO hS rfl hl.1 rfl (lv_room (Nat.le_of_ble_eq_true rfl)) dL_known_532 ⟨Nat.le_of_ble_eq_true rfl, Nat.le_of_ble_eq_true rfl⟩ (fun r9 o9 HZ locsZ hp hO hS hsz9 hfr9 => ?_)
  obtain ⟨er, rfl⟩ := hp
  obtain rfl : r9 = nI 1 := er.trans (by (try dsimp only); decide +kernel)
  refine lv_iconst (v := nI 1) hx hb dL_known_535 (by decide) ?_
  refine lv_icmp_ne (tgt := 578) hx hb dL_known_536 (by decide) (fun c9 => absurd c9 (by decide)) (fun _ => ?_)
  refine lv_aload_n hx hb dL_known_539 rfl (lv_at hl 0 rfl) ?_
  refine lv_iconst (v := nI 2) hx hb dL_known_540 (by decide) ?_
  refine lv_iconst (v := nI 4) hx hb dL_known_541 (by decide) ?_
  refine o_call (o := (kX10, hh, 0, c0)) (As := [.int (nI 2), .int (nI 4)]) (rest := []) hF (U_fretInfo_y l E tm tl D fs (kX10, hh, 0, c0) kXb10 2 4 (by omega) (by (try dsimp only); decide +kernel) (by omega)) (cwV 2 hts gL_known_X6_fretInfo rfl rfl rfl (by decide +kernel) ⟨Nat.le_of_ble_eq_true rfl, Nat.le_of_ble_eq_true rfl⟩) hG hZ (fun _ h9 => h9) hO hS rfl hl.1 rfl (lv_room (Nat.le_of_ble_eq_true rfl)) dL_known_542 ⟨Nat.le_of_ble_eq_true rfl, Nat.le_of_ble_eq_true rfl⟩ (fun r9 o9 HZ locsZ hp hO hS hsz9 hfr9 => ?_)
  obtain ⟨er, rfl⟩ := hp
  obtain rfl : r9 = nI 1 := er.trans (by (try dsimp only); decide +kernel)
  refine lv_iconst (v := nI 1) hx hb dL_known_545 (by decide) ?_
  refine lv_icmp_ne (tgt := 578) hx hb dL_known_546 (by decide) (fun c9 => absurd c9 (by decide)) (fun _ => ?_)
  refine lv_aload_n hx hb dL_known_549 rfl (lv_at hl 0 rfl) ?_
  refine lv_iconst (v := nI 2) hx hb dL_known_550 (by decide) ?_
  refine lv_iconst (v := nI 3) hx hb dL_known_551 (by decide) ?_
  refine o_call (o := (kX10, hh, 0, c0)) (As := [.int (nI 2), .int (nI 3)]) (rest := []) hF (U_fretInfo_y l E tm tl D fs (kX10, hh, 0, c0) kXb10 2 3 (by omega) (by (try dsimp only); decide +kernel) (by omega)) (cwV 2 hts gL_known_X6_fretInfo rfl rfl rfl (by decide +kernel) ⟨Nat.le_of_ble_eq_true rfl, Nat.le_of_ble_eq_true rfl⟩) hG hZ (fun _ h9 => h9) hO hS rfl hl.1 rfl (lv_room (Nat.le_of_ble_eq_true rfl)) dL_known_552 ⟨Nat.le_of_ble_eq_true rfl, Nat.le_of_ble_eq_true rfl⟩ (fun r9 o9 HZ locsZ hp hO hS hsz9 hfr9 => ?_)
  obtain ⟨er, rfl⟩ := hp
  obtain rfl : r9 = nI 0 := er.trans (by (try dsimp only); decide +kernel)
  refine lv_if_ne (tgt := 578) hx hb dL_known_555 (by decide) (fun c9 => absurd c9 (by decide)) (fun _ => ?_)
  refine lv_aload_n hx hb dL_known_558 rfl (lv_at hl 0 rfl) ?_
  refine lv_iconst (v := nI 2) hx hb dL_known_559 (by decide) ?_
  refine o_call (o := (kX10, hh, 0, c0)) (As := [.int (nI 2)]) (rest := []) hF (U_mostFor_y l E tm tl D fs (kX10, hh, 0, c0) kXb10 2 (by omega) (by (try dsimp only); decide +kernel)) (cwV 1 hts gL_known_X6_mostFor rfl rfl rfl (by decide +kernel) ⟨Nat.le_of_ble_eq_true rfl, Nat.le_of_ble_eq_true rfl⟩) hG hZ (fun _ h9 => h9) hO hS rfl hl.1 rfl (lv_room (Nat.le_of_ble_eq_true rfl)) dL_known_560 ⟨Nat.le_of_ble_eq_true rfl, Nat.le_of_ble_eq_true rfl⟩ (fun r9 o9 HZ locsZ hp hO hS hsz9 hfr9 => ?_)
  obtain ⟨er, rfl⟩ := hp
  obtain rfl : r9 = nI 1100 := er.trans (by (try dsimp only); decide +kernel)
  refine lv_sipush (v := nI 1100) hx hb dL_known_563 (by decide) ?_
  refine lv_icmp_ne (tgt := 578) hx hb dL_known_566 (by decide) (fun c9 => absurd c9 (by decide)) (fun _ => ?_)
  refine lv_aload_n hx hb dL_known_569 rfl (lv_at hl 0 rfl) ?_
  refine lv_iconst (v := nI 3) hx hb dL_known_570 (by decide) ?_
  refine o_call (o := (kX10, hh, 0, c0)) (As := [.int (nI 3)]) (rest := []) hF (U_count_y l E tm tl D fs (kX10, hh, 0, c0) kXb10 3 (by omega)) (cwV 1 hts gL_known_X6_count rfl rfl rfl (by decide +kernel) ⟨Nat.le_of_ble_eq_true rfl, Nat.le_of_ble_eq_true rfl⟩) hG hZ (fun _ h9 => h9) hO hS rfl hl.1 rfl (lv_room (Nat.le_of_ble_eq_true rfl)) dL_known_571 ⟨Nat.le_of_ble_eq_true rfl, Nat.le_of_ble_eq_true rfl⟩ (fun r9 o9 HZ locsZ hp hO hS hsz9 hfr9 => ?_)
  obtain ⟨er, rfl⟩ := hp
  obtain rfl : r9 = nI 1 := er.trans (show nI (bzL (kX10 7) (kX10 4) 4) = nI 1 by decide +kernel)
  refine lv_iconst (v := nI 1) hx hb dL_known_574 (by decide) ?_
  refine lv_icmp_eq (tgt := 580) hx hb dL_known_575 (by decide) (fun _ => ?_) (fun c9 => absurd c9 (by decide))
  refine lv_aload_n hx hb dL_known_580 rfl (lv_at hl 0 rfl) ?_
  refine lv_iconst (v := nI 0) hx hb dL_known_581 (by decide) ?_
  refine lv_sipush (v := nI 840) hx hb dL_known_582 (by decide) ?_
  refine lv_iconst (v := nI 5) hx hb dL_known_585 (by decide) ?_
  refine o_call (o := (kX10, hh, 0, c0)) (As := [.int (nI 0), .int (nI 840), .int (nI 5)]) (rest := []) hF (U_pluck_p l E tm tl D fs (kX10, hh, 0, c0) kXb10 0 840 5 (by omega) (by omega) (by omega) (by omega) (by omega) (by (try dsimp only); decide +kernel)) (cwV 3 hts gL_known_X6_pluck rfl rfl rfl (by decide +kernel) ⟨Nat.le_of_ble_eq_true rfl, Nat.le_of_ble_eq_true rfl⟩) hG hZ (fun _ h9 => h9) hO hS rfl hl.1 rfl (lv_room (Nat.le_of_ble_eq_true rfl)) dL_known_586 ⟨Nat.le_of_ble_eq_true rfl, Nat.le_of_ble_eq_true rfl⟩ (fun r9 o9 HZ locsZ hp hO hS hsz9 hfr9 => ?_)
  obtain ⟨rfl, rfl⟩ := hp
  refine lv_bipush (v := (-2)) hx hb dL_known_589 (by decide) ?_
  refine lv_icmp_ne (tgt := 823) hx hb dL_known_591 (by decide) (fun c9 => absurd c9 (by decide)) (fun _ => ?_)
  refine lv_aload_n hx hb dL_known_594 rfl (lv_at hl 0 rfl) ?_
  refine lv_iconst (v := nI 0) hx hb dL_known_595 (by decide) ?_
  refine lv_iconst (v := nI 1) hx hb dL_known_596 (by decide) ?_
  refine lv_sipush (v := nI 840) hx hb dL_known_597 (by decide) ?_
  refine o_call (o := (kX10, hh, 0, c0)) (As := [.int (nI 0), .int (nI 1), .int (nI 840)]) (rest := []) hF (U_node_f l E tm tl D fs (kX10, hh, 0, c0) kXb10 0 1 840 (by omega) (by omega) (by omega) (by omega) (by omega) (by (try dsimp only); decide +kernel)) (cwV 3 hts gL_known_X6_node rfl rfl rfl (by decide +kernel) ⟨Nat.le_of_ble_eq_true rfl, Nat.le_of_ble_eq_true rfl⟩) hG hZ (fun _ h9 => h9) hO hS rfl hl.1 rfl (lv_room (Nat.le_of_ble_eq_true rfl)) dL_known_600 ⟨Nat.le_of_ble_eq_true rfl, Nat.le_of_ble_eq_true rfl⟩ (fun r9 o9 HZ locsZ hp hO hS hsz9 hfr9 => ?_)
  obtain ⟨rfl, rfl⟩ := hp
  refine lv_bipush (v := (-4)) hx hb dL_known_603 (by decide) ?_
  refine lv_icmp_ne (tgt := 823) hx hb dL_known_605 (by decide) (fun c9 => absurd c9 (by decide)) (fun _ => ?_)
  refine lv_aload_n hx hb dL_known_608 rfl (lv_at hl 0 rfl) ?_
  refine lv_iconst (v := nI 0) hx hb dL_known_609 (by decide) ?_
  refine lv_iconst (v := nI 1) hx hb dL_known_610 (by decide) ?_
  refine lv_sipush (v := nI 840) hx hb dL_known_611 (by decide) ?_
  refine o_call (o := (kX10, hh, 0, c0)) (As := [.int (nI 0), .int (nI 1), .int (nI 840)]) (rest := []) hF (U_nodeAgain_f l E tm tl D fs (kX10, hh, 0, c0) kXb10 0 1 840 (by omega) (by omega) (by omega) (by omega) (by omega) (by (try dsimp only); decide +kernel)) (cwV 3 hts gL_known_X6_nodeAgain rfl rfl rfl (by decide +kernel) ⟨Nat.le_of_ble_eq_true rfl, Nat.le_of_ble_eq_true rfl⟩) hG hZ (fun _ h9 => h9) hO hS rfl hl.1 rfl (lv_room (Nat.le_of_ble_eq_true rfl)) dL_known_614 ⟨Nat.le_of_ble_eq_true rfl, Nat.le_of_ble_eq_true rfl⟩ (fun r9 o9 HZ locsZ hp hO hS hsz9 hfr9 => ?_)
  obtain ⟨rfl, rfl⟩ := hp
  refine lv_bipush (v := (-4)) hx hb dL_known_617 (by decide) ?_
  refine lv_icmp_ne (tgt := 823) hx hb dL_known_619 (by decide) (fun c9 => absurd c9 (by decide)) (fun _ => ?_)
  refine lv_aload_n hx hb dL_known_622 rfl (lv_at hl 0 rfl) ?_
  refine lv_iconst (v := nI 0) hx hb dL_known_623 (by decide) ?_
  refine lv_sipush (v := nI 1680) hx hb dL_known_624 (by decide) ?_
  refine lv_sipush (v := nI 1000) hx hb dL_known_627 (by decide) ?_
  refine o_call (o := (kX10, hh, 0, c0)) (As := [.int (nI 0), .int (nI 1680), .int (nI 1000)]) (rest := []) hF (U_pluck_y l E tm tl D fs (kX10, hh, 0, c0) kXb10 0 1680 1000 (by omega) (by omega) (by omega) (by omega) (by omega) (by (try dsimp only); decide +kernel)) (cwV 3 hts gL_known_X6_pluck rfl rfl rfl (by decide +kernel) ⟨Nat.le_of_ble_eq_true rfl, Nat.le_of_ble_eq_true rfl⟩) hG hZ (fun _ h9 => h9) hO hS rfl hl.1 rfl (lv_room (Nat.le_of_ble_eq_true rfl)) dL_known_630 ⟨Nat.le_of_ble_eq_true rfl, Nat.le_of_ble_eq_true rfl⟩ (fun r9 o9 HZ locsZ hp hO hS hsz9 hfr9 => ?_)
  obtain ⟨er, rfl⟩ := hp
  obtain rfl : r9 = nI 6 := er.trans (by (try dsimp only); decide +kernel)
  have hO : HO E D fs (kX11, kpH hh kX10, 0, c0) HZ := HO_ext (show EQX (pkX kX10 0 1680 1000) kX11 by unfold EQX; decide +kernel) (fun _ _ => rfl) hO
  generalize kpH hh kX10 = hh at hO
  refine lv_bipush (v := nI 6) hx hb dL_known_633 (by decide) ?_
  refine lv_icmp_ne (tgt := 823) hx hb dL_known_635 (by decide) (fun c9 => absurd c9 (by decide)) (fun _ => ?_)
  refine lv_aload_n hx hb dL_known_638 rfl (lv_at hl 0 rfl) ?_
  refine lv_iconst (v := nI 0) hx hb dL_known_639 (by decide) ?_
  refine lv_iconst (v := nI 1) hx hb dL_known_640 (by decide) ?_
  refine lv_iconst (v := nI 0) hx hb dL_known_641 (by decide) ?_
  refine o_call (o := (kX11, hh, 0, c0)) (As := [.int (nI 0), .int (nI 1), .int (nI 0)]) (rest := []) hF (U_modeInfo_y l E tm tl D fs (kX11, hh, 0, c0) kXb11 0 1 0 (by omega) (by omega) (by omega) (by omega)) (cwV 3 hts gL_known_X6_modeInfo rfl rfl rfl (by decide +kernel) ⟨Nat.le_of_ble_eq_true rfl, Nat.le_of_ble_eq_true rfl⟩) hG hZ (fun _ h9 => h9) hO hS rfl hl.1 rfl (lv_room (Nat.le_of_ble_eq_true rfl)) dL_known_642 ⟨Nat.le_of_ble_eq_true rfl, Nat.le_of_ble_eq_true rfl⟩ (fun r9 o9 HZ locsZ hp hO hS hsz9 hfr9 => ?_)
  obtain ⟨er, rfl⟩ := hp
  obtain rfl : r9 = nI 500000 := er.trans (by (try dsimp only); decide +kernel)
  refine lv_ldc (v := nI 500000) hx hb hown (hts (.constant RL 191 500000) (by decide +kernel)) dL_known_645 ?_
  refine lv_icmp_ne (tgt := 823) hx hb dL_known_647 (by decide) (fun c9 => absurd c9 (by decide)) (fun _ => ?_)
  refine lv_aload_n hx hb dL_known_650 rfl (lv_at hl 0 rfl) ?_
  refine lv_iconst (v := nI 0) hx hb dL_known_651 (by decide) ?_
  refine lv_iconst (v := nI 3) hx hb dL_known_652 (by decide) ?_
  refine lv_iconst (v := nI 0) hx hb dL_known_653 (by decide) ?_
  refine o_call (o := (kX11, hh, 0, c0)) (As := [.int (nI 0), .int (nI 3), .int (nI 0)]) (rest := []) hF (U_modeInfo_y l E tm tl D fs (kX11, hh, 0, c0) kXb11 0 3 0 (by omega) (by omega) (by omega) (by omega)) (cwV 3 hts gL_known_X6_modeInfo rfl rfl rfl (by decide +kernel) ⟨Nat.le_of_ble_eq_true rfl, Nat.le_of_ble_eq_true rfl⟩) hG hZ (fun _ h9 => h9) hO hS rfl hl.1 rfl (lv_room (Nat.le_of_ble_eq_true rfl)) dL_known_654 ⟨Nat.le_of_ble_eq_true rfl, Nat.le_of_ble_eq_true rfl⟩ (fun r9 o9 HZ locsZ hp hO hS hsz9 hfr9 => ?_)
  obtain ⟨er, rfl⟩ := hp
  obtain rfl : r9 = nI 166666 := er.trans (by (try dsimp only); decide +kernel)
  refine lv_ldc (v := nI 166666) hx hb hown (hts (.constant RL 192 166666) (by decide +kernel)) dL_known_657 ?_
  refine lv_icmp_ne (tgt := 823) hx hb dL_known_659 (by decide) (fun c9 => absurd c9 (by decide)) (fun _ => ?_)
  refine lv_aload_n hx hb dL_known_662 rfl (lv_at hl 0 rfl) ?_
  refine lv_iconst (v := nI 0) hx hb dL_known_663 (by decide) ?_
  refine lv_bipush (v := nI 11) hx hb dL_known_664 (by decide) ?_
  refine lv_iconst (v := nI 0) hx hb dL_known_666 (by decide) ?_
  refine o_call (o := (kX11, hh, 0, c0)) (As := [.int (nI 0), .int (nI 11), .int (nI 0)]) (rest := []) hF (U_modeInfo_y l E tm tl D fs (kX11, hh, 0, c0) kXb11 0 11 0 (by omega) (by omega) (by omega) (by omega)) (cwV 3 hts gL_known_X6_modeInfo rfl rfl rfl (by decide +kernel) ⟨Nat.le_of_ble_eq_true rfl, Nat.le_of_ble_eq_true rfl⟩) hG hZ (fun _ h9 => h9) hO hS rfl hl.1 rfl (lv_room (Nat.le_of_ble_eq_true rfl)) dL_known_667 ⟨Nat.le_of_ble_eq_true rfl, Nat.le_of_ble_eq_true rfl⟩ (fun r9 o9 HZ locsZ hp hO hS hsz9 hfr9 => ?_)
  obtain ⟨er, rfl⟩ := hp
  obtain rfl : r9 = nI 45454 := er.trans (by (try dsimp only); decide +kernel)
  refine lv_ldc (v := nI 45454) hx hb hown (hts (.constant RL 193 45454) (by decide +kernel)) dL_known_670 ?_
  refine lv_icmp_ne (tgt := 823) hx hb dL_known_672 (by decide) (fun c9 => absurd c9 (by decide)) (fun _ => ?_)
  refine lv_aload_n hx hb dL_known_675 rfl (lv_at hl 0 rfl) ?_
  refine lv_iconst (v := nI 2) hx hb dL_known_676 (by decide) ?_
  refine lv_iconst (v := nI 1) hx hb dL_known_677 (by decide) ?_
  refine o_call (o := (kX11, hh, 0, c0)) (As := [.int (nI 2), .int (nI 1)]) (rest := []) hF (U_fretInfo_y l E tm tl D fs (kX11, hh, 0, c0) kXb11 2 1 (by omega) (by (try dsimp only); decide +kernel) (by omega)) (cwV 2 hts gL_known_X6_fretInfo rfl rfl rfl (by decide +kernel) ⟨Nat.le_of_ble_eq_true rfl, Nat.le_of_ble_eq_true rfl⟩) hG hZ (fun _ h9 => h9) hO hS rfl hl.1 rfl (lv_room (Nat.le_of_ble_eq_true rfl)) dL_known_678 ⟨Nat.le_of_ble_eq_true rfl, Nat.le_of_ble_eq_true rfl⟩ (fun r9 o9 HZ locsZ hp hO hS hsz9 hfr9 => ?_)
  obtain ⟨er, rfl⟩ := hp
  obtain rfl : r9 = nI 1299 := er.trans (by (try dsimp only); decide +kernel)
  refine lv_sipush (v := nI 1299) hx hb dL_known_681 (by decide) ?_
  refine lv_icmp_ne (tgt := 823) hx hb dL_known_684 (by decide) (fun c9 => absurd c9 (by decide)) (fun _ => ?_)
  refine lv_aload_n hx hb dL_known_687 rfl (lv_at hl 0 rfl) ?_
  refine lv_iconst (v := nI 1) hx hb dL_known_688 (by decide) ?_
  refine lv_iconst (v := nI 1) hx hb dL_known_689 (by decide) ?_
  refine o_call (o := (kX11, hh, 0, c0)) (As := [.int (nI 1), .int (nI 1)]) (rest := []) hF (U_fretInfo_y l E tm tl D fs (kX11, hh, 0, c0) kXb11 1 1 (by omega) (by (try dsimp only); decide +kernel) (by omega)) (cwV 2 hts gL_known_X6_fretInfo rfl rfl rfl (by decide +kernel) ⟨Nat.le_of_ble_eq_true rfl, Nat.le_of_ble_eq_true rfl⟩) hG hZ (fun _ h9 => h9) hO hS rfl hl.1 rfl (lv_room (Nat.le_of_ble_eq_true rfl)) dL_known_690 ⟨Nat.le_of_ble_eq_true rfl, Nat.le_of_ble_eq_true rfl⟩ (fun r9 o9 HZ locsZ hp hO hS hsz9 hfr9 => ?_)
  obtain ⟨er, rfl⟩ := hp
  obtain rfl : r9 = nI 999 := er.trans (by (try dsimp only); decide +kernel)
  refine lv_sipush (v := nI 999) hx hb dL_known_693 (by decide) ?_
  refine lv_icmp_ne (tgt := 823) hx hb dL_known_696 (by decide) (fun c9 => absurd c9 (by decide)) (fun _ => ?_)
  refine lv_aload_n hx hb dL_known_699 rfl (lv_at hl 0 rfl) ?_
  refine lv_iconst (v := nI 1) hx hb dL_known_700 (by decide) ?_
  refine lv_iconst (v := nI 2) hx hb dL_known_701 (by decide) ?_
  refine o_call (o := (kX11, hh, 0, c0)) (As := [.int (nI 1), .int (nI 2)]) (rest := []) hF (U_fretInfo_y l E tm tl D fs (kX11, hh, 0, c0) kXb11 1 2 (by omega) (by (try dsimp only); decide +kernel) (by omega)) (cwV 2 hts gL_known_X6_fretInfo rfl rfl rfl (by decide +kernel) ⟨Nat.le_of_ble_eq_true rfl, Nat.le_of_ble_eq_true rfl⟩) hG hZ (fun _ h9 => h9) hO hS rfl hl.1 rfl (lv_room (Nat.le_of_ble_eq_true rfl)) dL_known_702 ⟨Nat.le_of_ble_eq_true rfl, Nat.le_of_ble_eq_true rfl⟩ (fun r9 o9 HZ locsZ hp hO hS hsz9 hfr9 => ?_)
  obtain ⟨er, rfl⟩ := hp
  obtain rfl : r9 = nI 0 := er.trans (by (try dsimp only); decide +kernel)
  refine lv_if_ne (tgt := 823) hx hb dL_known_705 (by decide) (fun c9 => absurd c9 (by decide)) (fun _ => ?_)
  refine lv_aload_n hx hb dL_known_708 rfl (lv_at hl 0 rfl) ?_
  refine lv_bipush (v := nI 6) hx hb dL_known_709 (by decide) ?_
  refine o_call (o := (kX11, hh, 0, c0)) (As := [.int (nI 6)]) (rest := []) hF (U_count_y l E tm tl D fs (kX11, hh, 0, c0) kXb11 6 (by omega)) (cwV 1 hts gL_known_X6_count rfl rfl rfl (by decide +kernel) ⟨Nat.le_of_ble_eq_true rfl, Nat.le_of_ble_eq_true rfl⟩) hG hZ (fun _ h9 => h9) hO hS rfl hl.1 rfl (lv_room (Nat.le_of_ble_eq_true rfl)) dL_known_711 ⟨Nat.le_of_ble_eq_true rfl, Nat.le_of_ble_eq_true rfl⟩ (fun r9 o9 HZ locsZ hp hO hS hsz9 hfr9 => ?_)
  obtain ⟨er, rfl⟩ := hp
  obtain rfl : r9 = nI 2 := er.trans (show nI (kX11 13 3) = nI 2 by decide +kernel)
  refine lv_iconst (v := nI 2) hx hb dL_known_714 (by decide) ?_
  refine lv_icmp_ne (tgt := 823) hx hb dL_known_715 (by decide) (fun c9 => absurd c9 (by decide)) (fun _ => ?_)
  refine lv_aload_n hx hb dL_known_718 rfl (lv_at hl 0 rfl) ?_
  refine lv_iconst (v := nI 0) hx hb dL_known_719 (by decide) ?_
  refine lv_iconst (v := nI 1) hx hb dL_known_720 (by decide) ?_
  refine o_call (o := (kX11, hh, 0, c0)) (As := [.int (nI 0), .int (nI 1)]) (rest := []) hF (U_played_y l E tm tl D fs (kX11, hh, 0, c0) kXb11 0 1 (by (try dsimp only); decide +kernel) (by omega)) (cwV 2 hts gL_known_X6_played rfl rfl rfl (by decide +kernel) ⟨Nat.le_of_ble_eq_true rfl, Nat.le_of_ble_eq_true rfl⟩) hG hZ (fun _ h9 => h9) hO hS rfl hl.1 rfl (lv_room (Nat.le_of_ble_eq_true rfl)) dL_known_721 ⟨Nat.le_of_ble_eq_true rfl, Nat.le_of_ble_eq_true rfl⟩ (fun r9 o9 HZ locsZ hp hO hS hsz9 hfr9 => ?_)
  obtain ⟨er, rfl⟩ := hp
  obtain rfl : r9 = nI 0 := er.trans (by (try dsimp only); decide +kernel)
  refine lv_if_ne (tgt := 823) hx hb dL_known_724 (by decide) (fun c9 => absurd c9 (by decide)) (fun _ => ?_)
  refine lv_aload_n hx hb dL_known_727 rfl (lv_at hl 0 rfl) ?_
  refine lv_iconst (v := nI 1) hx hb dL_known_728 (by decide) ?_
  refine lv_iconst (v := nI 0) hx hb dL_known_729 (by decide) ?_
  refine o_call (o := (kX11, hh, 0, c0)) (As := [.int (nI 1), .int (nI 0)]) (rest := []) hF (U_played_y l E tm tl D fs (kX11, hh, 0, c0) kXb11 1 0 (by (try dsimp only); decide +kernel) (by omega)) (cwV 2 hts gL_known_X6_played rfl rfl rfl (by decide +kernel) ⟨Nat.le_of_ble_eq_true rfl, Nat.le_of_ble_eq_true rfl⟩) hG hZ (fun _ h9 => h9) hO hS rfl hl.1 rfl (lv_room (Nat.le_of_ble_eq_true rfl)) dL_known_730 ⟨Nat.le_of_ble_eq_true rfl, Nat.le_of_ble_eq_true rfl⟩ (fun r9 o9 HZ locsZ hp hO hS hsz9 hfr9 => ?_)
  obtain ⟨er, rfl⟩ := hp
  obtain rfl : r9 = nI 0 := er.trans (by (try dsimp only); decide +kernel)
  refine lv_if_ne (tgt := 823) hx hb dL_known_733 (by decide) (fun c9 => absurd c9 (by decide)) (fun _ => ?_)
  refine lv_aload_n hx hb dL_known_736 rfl (lv_at hl 0 rfl) ?_
  refine lv_iconst (v := nI 1) hx hb dL_known_737 (by decide) ?_
  refine lv_iconst (v := nI 1) hx hb dL_known_738 (by decide) ?_
  refine o_call (o := (kX11, hh, 0, c0)) (As := [.int (nI 1), .int (nI 1)]) (rest := []) hF (U_played_y l E tm tl D fs (kX11, hh, 0, c0) kXb11 1 1 (by (try dsimp only); decide +kernel) (by omega)) (cwV 2 hts gL_known_X6_played rfl rfl rfl (by decide +kernel) ⟨Nat.le_of_ble_eq_true rfl, Nat.le_of_ble_eq_true rfl⟩) hG hZ (fun _ h9 => h9) hO hS rfl hl.1 rfl (lv_room (Nat.le_of_ble_eq_true rfl)) dL_known_739 ⟨Nat.le_of_ble_eq_true rfl, Nat.le_of_ble_eq_true rfl⟩ (fun r9 o9 HZ locsZ hp hO hS hsz9 hfr9 => ?_)
  obtain ⟨er, rfl⟩ := hp
  obtain rfl : r9 = nI 1 := er.trans (by (try dsimp only); decide +kernel)
  refine lv_iconst (v := nI 1) hx hb dL_known_742 (by decide) ?_
  refine lv_icmp_ne (tgt := 823) hx hb dL_known_743 (by decide) (fun c9 => absurd c9 (by decide)) (fun _ => ?_)
  refine lv_aload_n hx hb dL_known_746 rfl (lv_at hl 0 rfl) ?_
  refine lv_iconst (v := nI 1) hx hb dL_known_747 (by decide) ?_
  refine lv_iconst (v := nI 2) hx hb dL_known_748 (by decide) ?_
  refine o_call (o := (kX11, hh, 0, c0)) (As := [.int (nI 1), .int (nI 2)]) (rest := []) hF (U_played_y l E tm tl D fs (kX11, hh, 0, c0) kXb11 1 2 (by (try dsimp only); decide +kernel) (by omega)) (cwV 2 hts gL_known_X6_played rfl rfl rfl (by decide +kernel) ⟨Nat.le_of_ble_eq_true rfl, Nat.le_of_ble_eq_true rfl⟩) hG hZ (fun _ h9 => h9) hO hS rfl hl.1 rfl (lv_room (Nat.le_of_ble_eq_true rfl)) dL_known_749 ⟨Nat.le_of_ble_eq_true rfl, Nat.le_of_ble_eq_true rfl⟩ (fun r9 o9 HZ locsZ hp hO hS hsz9 hfr9 => ?_)
  obtain ⟨er, rfl⟩ := hp
  obtain rfl : r9 = nI 1 := er.trans (by (try dsimp only); decide +kernel)
  refine lv_iconst (v := nI 1) hx hb dL_known_752 (by decide) ?_
  refine lv_icmp_ne (tgt := 823) hx hb dL_known_753 (by decide) (fun c9 => absurd c9 (by decide)) (fun _ => ?_)
  refine lv_aload_n hx hb dL_known_756 rfl (lv_at hl 0 rfl) ?_
  refine lv_iconst (v := nI 2) hx hb dL_known_757 (by decide) ?_
  refine lv_iconst (v := nI 0) hx hb dL_known_758 (by decide) ?_
  refine o_call (o := (kX11, hh, 0, c0)) (As := [.int (nI 2), .int (nI 0)]) (rest := []) hF (U_played_f l E tm tl D fs (kX11, hh, 0, c0) kXb11 2 0 (by (try dsimp only); decide +kernel) (by omega) (by omega)) (cwV 2 hts gL_known_X6_played rfl rfl rfl (by decide +kernel) ⟨Nat.le_of_ble_eq_true rfl, Nat.le_of_ble_eq_true rfl⟩) hG hZ (fun _ h9 => h9) hO hS rfl hl.1 rfl (lv_room (Nat.le_of_ble_eq_true rfl)) dL_known_759 ⟨Nat.le_of_ble_eq_true rfl, Nat.le_of_ble_eq_true rfl⟩ (fun r9 o9 HZ locsZ hp hO hS hsz9 hfr9 => ?_)
  obtain ⟨rfl, rfl⟩ := hp
  refine lv_bipush (v := (-4)) hx hb dL_known_762 (by decide) ?_
  refine lv_icmp_ne (tgt := 823) hx hb dL_known_764 (by decide) (fun c9 => absurd c9 (by decide)) (fun _ => ?_)
  refine lv_aload_n hx hb dL_known_767 rfl (lv_at hl 0 rfl) ?_
  refine lv_iconst (v := nI 2) hx hb dL_known_768 (by decide) ?_
  refine lv_sipush (v := nI 1300) hx hb dL_known_769 (by decide) ?_
  refine o_call (o := (kX11, hh, 0, c0)) (As := [.int (nI 2), .int (nI 1300)]) (rest := []) hF (U_level_p l E tm tl D fs (kX11, hh, 0, c0) kXb11 2 1300 (by omega) (by (try dsimp only); decide +kernel) (by omega) (by (try dsimp only); decide +kernel)) (cwV 2 hts gL_known_X6_level rfl rfl rfl (by decide +kernel) ⟨Nat.le_of_ble_eq_true rfl, Nat.le_of_ble_eq_true rfl⟩) hG hZ (fun _ h9 => h9) hO hS rfl hl.1 rfl (lv_room (Nat.le_of_ble_eq_true rfl)) dL_known_772 ⟨Nat.le_of_ble_eq_true rfl, Nat.le_of_ble_eq_true rfl⟩ (fun r9 o9 HZ locsZ hp hO hS hsz9 hfr9 => ?_)
  obtain ⟨rfl, rfl⟩ := hp
  refine lv_bipush (v := (-2)) hx hb dL_known_775 (by decide) ?_
  refine lv_icmp_ne (tgt := 823) hx hb dL_known_777 (by decide) (fun c9 => absurd c9 (by decide)) (fun _ => ?_)
  refine lv_aload_n hx hb dL_known_780 rfl (lv_at hl 0 rfl) ?_
  refine lv_iconst (v := nI 2) hx hb dL_known_781 (by decide) ?_
  refine lv_sipush (v := nI 1099) hx hb dL_known_782 (by decide) ?_
  refine o_call (o := (kX11, hh, 0, c0)) (As := [.int (nI 2), .int (nI 1099)]) (rest := []) hF (U_level_y l E tm tl D fs (kX11, hh, 0, c0) kXb11 2 1099 (by omega) (by (try dsimp only); decide +kernel) (by omega) (by (try dsimp only); decide +kernel)) (cwV 2 hts gL_known_X6_level rfl rfl rfl (by decide +kernel) ⟨Nat.le_of_ble_eq_true rfl, Nat.le_of_ble_eq_true rfl⟩) hG hZ (fun _ h9 => h9) hO hS rfl hl.1 rfl (lv_room (Nat.le_of_ble_eq_true rfl)) dL_known_785 ⟨Nat.le_of_ble_eq_true rfl, Nat.le_of_ble_eq_true rfl⟩ (fun r9 o9 HZ locsZ hp hO hS hsz9 hfr9 => ?_)
  obtain ⟨er, rfl⟩ := hp
  obtain rfl : r9 = nI 200 := er.trans (by (try dsimp only); decide +kernel)
  have hO : HO E D fs (kX12, kpH hh kX11, 0, c0) HZ := HO_ext (show EQX (lvX kX11 2 1099) kX12 by unfold EQX; decide +kernel) (fun _ _ => rfl) hO
  generalize kpH hh kX11 = hh at hO
  refine lv_sipush (v := nI 200) hx hb dL_known_788 (by decide) ?_
  refine lv_icmp_ne (tgt := 823) hx hb dL_known_791 (by decide) (fun c9 => absurd c9 (by decide)) (fun _ => ?_)
  refine lv_aload_n hx hb dL_known_794 rfl (lv_at hl 0 rfl) ?_
  refine lv_iconst (v := nI 0) hx hb dL_known_795 (by decide) ?_
  refine lv_bipush (v := nI 7) hx hb dL_known_796 (by decide) ?_
  refine o_call (o := (kX12, hh, 0, c0)) (As := [.int (nI 0), .int (nI 7)]) (rest := []) hF (U_stringInfo_y l E tm tl D fs (kX12, hh, 0, c0) kXb12 0 7 (by omega) (by omega)) (cwV 2 hts gL_known_X6_stringInfo rfl rfl rfl (by decide +kernel) ⟨Nat.le_of_ble_eq_true rfl, Nat.le_of_ble_eq_true rfl⟩) hG hZ (fun _ h9 => h9) hO hS rfl hl.1 rfl (lv_room (Nat.le_of_ble_eq_true rfl)) dL_known_798 ⟨Nat.le_of_ble_eq_true rfl, Nat.le_of_ble_eq_true rfl⟩ (fun r9 o9 HZ locsZ hp hO hS hsz9 hfr9 => ?_)
  obtain ⟨er, rfl⟩ := hp
  obtain rfl : r9 = nI 0 := er.trans (by (try dsimp only); decide +kernel)
  refine lv_if_ne (tgt := 823) hx hb dL_known_801 (by decide) (fun c9 => absurd c9 (by decide)) (fun _ => ?_)
  refine lv_aload_n hx hb dL_known_804 rfl (lv_at hl 0 rfl) ?_
  refine lv_iconst (v := nI 0) hx hb dL_known_805 (by decide) ?_
  refine lv_iconst (v := nI 2) hx hb dL_known_806 (by decide) ?_
  refine o_call (o := (kX12, hh, 0, c0)) (As := [.int (nI 0), .int (nI 2)]) (rest := []) hF (U_stringInfo_y l E tm tl D fs (kX12, hh, 0, c0) kXb12 0 2 (by omega) (by omega)) (cwV 2 hts gL_known_X6_stringInfo rfl rfl rfl (by decide +kernel) ⟨Nat.le_of_ble_eq_true rfl, Nat.le_of_ble_eq_true rfl⟩) hG hZ (fun _ h9 => h9) hO hS rfl hl.1 rfl (lv_room (Nat.le_of_ble_eq_true rfl)) dL_known_807 ⟨Nat.le_of_ble_eq_true rfl, Nat.le_of_ble_eq_true rfl⟩ (fun r9 o9 HZ locsZ hp hO hS hsz9 hfr9 => ?_)
  obtain ⟨er, rfl⟩ := hp
  obtain rfl : r9 = nI 1 := er.trans (by (try dsimp only); decide +kernel)
  refine lv_iconst (v := nI 1) hx hb dL_known_810 (by decide) ?_
  refine lv_icmp_ne (tgt := 823) hx hb dL_known_811 (by decide) (fun c9 => absurd c9 (by decide)) (fun _ => ?_)
  refine lv_aload_n hx hb dL_known_814 rfl (lv_at hl 0 rfl) ?_
  refine lv_iconst (v := nI 0) hx hb dL_known_815 (by decide) ?_
  refine lv_iconst (v := nI 3) hx hb dL_known_816 (by decide) ?_
  refine o_call (o := (kX12, hh, 0, c0)) (As := [.int (nI 0), .int (nI 3)]) (rest := []) hF (U_stringInfo_y l E tm tl D fs (kX12, hh, 0, c0) kXb12 0 3 (by omega) (by omega)) (cwV 2 hts gL_known_X6_stringInfo rfl rfl rfl (by decide +kernel) ⟨Nat.le_of_ble_eq_true rfl, Nat.le_of_ble_eq_true rfl⟩) hG hZ (fun _ h9 => h9) hO hS rfl hl.1 rfl (lv_room (Nat.le_of_ble_eq_true rfl)) dL_known_817 ⟨Nat.le_of_ble_eq_true rfl, Nat.le_of_ble_eq_true rfl⟩ (fun r9 o9 HZ locsZ hp hO hS hsz9 hfr9 => ?_)
  obtain ⟨er, rfl⟩ := hp
  obtain rfl : r9 = nI 0 := er.trans (by (try dsimp only); decide +kernel)
  refine lv_if_eq (tgt := 825) hx hb dL_known_820 (by decide) (fun _ => ?_) (fun c9 => absurd c9 (by decide))
  refine lv_aload_n hx hb dL_known_825 rfl (lv_at hl 0 rfl) ?_
  refine lv_iconst (v := nI 1) hx hb dL_known_826 (by decide) ?_
  refine lv_sipush (v := nI 1260) hx hb dL_known_827 (by decide) ?_
  refine lv_bipush (v := nI 100) hx hb dL_known_830 (by decide) ?_
  refine o_call (o := (kX12, hh, 0, c0)) (As := [.int (nI 1), .int (nI 1260), .int (nI 100)]) (rest := []) hF (U_pluck_y l E tm tl D fs (kX12, hh, 0, c0) kXb12 1 1260 100 (by omega) (by omega) (by omega) (by omega) (by omega) (by (try dsimp only); decide +kernel)) (cwV 3 hts gL_known_X6_pluck rfl rfl rfl (by decide +kernel) ⟨Nat.le_of_ble_eq_true rfl, Nat.le_of_ble_eq_true rfl⟩) hG hZ (fun _ h9 => h9) hO hS rfl hl.1 rfl (lv_room (Nat.le_of_ble_eq_true rfl)) dL_known_832 ⟨Nat.le_of_ble_eq_true rfl, Nat.le_of_ble_eq_true rfl⟩ (fun r9 o9 HZ locsZ hp hO hS hsz9 hfr9 => ?_)
  obtain ⟨er, rfl⟩ := hp
  obtain rfl : r9 = nI 6 := er.trans (by (try dsimp only); decide +kernel)
  have hO : HO E D fs (kX13, kpH hh kX12, 0, c0) HZ := HO_ext (show EQX (pkX kX12 1 1260 100) kX13 by unfold EQX; decide +kernel) (fun _ _ => rfl) hO
  generalize kpH hh kX12 = hh at hO
  refine lv_bipush (v := nI 6) hx hb dL_known_835 (by decide) ?_
  refine lv_icmp_ne (tgt := 1042) hx hb dL_known_837 (by decide) (fun c9 => absurd c9 (by decide)) (fun _ => ?_)
  refine lv_aload_n hx hb dL_known_840 rfl (lv_at hl 0 rfl) ?_
  refine lv_iconst (v := nI 2) hx hb dL_known_841 (by decide) ?_
  refine lv_sipush (v := nI 1260) hx hb dL_known_842 (by decide) ?_
  refine lv_bipush (v := nI 100) hx hb dL_known_845 (by decide) ?_
  refine o_call (o := (kX13, hh, 0, c0)) (As := [.int (nI 2), .int (nI 1260), .int (nI 100)]) (rest := []) hF (U_pluck_y l E tm tl D fs (kX13, hh, 0, c0) kXb13 2 1260 100 (by omega) (by omega) (by omega) (by omega) (by omega) (by (try dsimp only); decide +kernel)) (cwV 3 hts gL_known_X6_pluck rfl rfl rfl (by decide +kernel) ⟨Nat.le_of_ble_eq_true rfl, Nat.le_of_ble_eq_true rfl⟩) hG hZ (fun _ h9 => h9) hO hS rfl hl.1 rfl (lv_room (Nat.le_of_ble_eq_true rfl)) dL_known_847 ⟨Nat.le_of_ble_eq_true rfl, Nat.le_of_ble_eq_true rfl⟩ (fun r9 o9 HZ locsZ hp hO hS hsz9 hfr9 => ?_)
  obtain ⟨er, rfl⟩ := hp
  obtain rfl : r9 = nI 6 := er.trans (by (try dsimp only); decide +kernel)
  have hO : HO E D fs (kX14, kpH hh kX13, 0, c0) HZ := HO_ext (show EQX (pkX kX13 2 1260 100) kX14 by unfold EQX; decide +kernel) (fun _ _ => rfl) hO
  generalize kpH hh kX13 = hh at hO
  refine lv_bipush (v := nI 6) hx hb dL_known_850 (by decide) ?_
  refine lv_icmp_ne (tgt := 1042) hx hb dL_known_852 (by decide) (fun c9 => absurd c9 (by decide)) (fun _ => ?_)
  refine lv_aload_n hx hb dL_known_855 rfl (lv_at hl 0 rfl) ?_
  refine lv_iconst (v := nI 1) hx hb dL_known_856 (by decide) ?_
  refine lv_iconst (v := nI 1) hx hb dL_known_857 (by decide) ?_
  refine lv_iconst (v := nI 2) hx hb dL_known_858 (by decide) ?_
  refine lv_iconst (v := nI 1) hx hb dL_known_859 (by decide) ?_
  refine o_call (o := (kX14, hh, 0, c0)) (As := [.int (nI 1), .int (nI 1), .int (nI 2), .int (nI 1)]) (rest := []) hF (U_beat_y l E tm tl D fs (kX14, hh, 0, c0) kXb14 1 1 2 1 (by omega) (by omega) (by omega) (by omega) (by omega) (by omega) (by omega)) (cwV 4 hts gL_known_X6_beat rfl rfl rfl (by decide +kernel) ⟨Nat.le_of_ble_eq_true rfl, Nat.le_of_ble_eq_true rfl⟩) hG hZ (fun _ h9 => h9) hO hS rfl hl.1 rfl (lv_room (Nat.le_of_ble_eq_true rfl)) dL_known_860 ⟨Nat.le_of_ble_eq_true rfl, Nat.le_of_ble_eq_true rfl⟩ (fun r9 o9 HZ locsZ hp hO hS hsz9 hfr9 => ?_)
  obtain ⟨er, rfl⟩ := hp
  obtain rfl : r9 = nI 177 := er.trans (show (if beatV (kX14 3) (kX14 8) (kX14 9) (kX14 12 4) 1 1 2 1 = 0 then -4 else nI (beatV (kX14 3) (kX14 8) (kX14 9) (kX14 12 4) 1 1 2 1)) = nI 177 by decide +kernel)
  refine lv_sipush (v := nI 177) hx hb dL_known_863 (by decide) ?_
  refine lv_icmp_ne (tgt := 1042) hx hb dL_known_866 (by decide) (fun c9 => absurd c9 (by decide)) (fun _ => ?_)
  refine lv_aload_n hx hb dL_known_869 rfl (lv_at hl 0 rfl) ?_
  refine lv_iconst (v := nI 1) hx hb dL_known_870 (by decide) ?_
  refine lv_iconst (v := nI 3) hx hb dL_known_871 (by decide) ?_
  refine lv_iconst (v := nI 2) hx hb dL_known_872 (by decide) ?_
  refine lv_iconst (v := nI 1) hx hb dL_known_873 (by decide) ?_
  refine o_call (o := (kX14, hh, 0, c0)) (As := [.int (nI 1), .int (nI 3), .int (nI 2), .int (nI 1)]) (rest := []) hF (U_beat_y l E tm tl D fs (kX14, hh, 0, c0) kXb14 1 3 2 1 (by omega) (by omega) (by omega) (by omega) (by omega) (by omega) (by omega)) (cwV 4 hts gL_known_X6_beat rfl rfl rfl (by decide +kernel) ⟨Nat.le_of_ble_eq_true rfl, Nat.le_of_ble_eq_true rfl⟩) hG hZ (fun _ h9 => h9) hO hS rfl hl.1 rfl (lv_room (Nat.le_of_ble_eq_true rfl)) dL_known_874 ⟨Nat.le_of_ble_eq_true rfl, Nat.le_of_ble_eq_true rfl⟩ (fun r9 o9 HZ locsZ hp hO hS hsz9 hfr9 => ?_)
  obtain ⟨er, rfl⟩ := hp
  obtain rfl : r9 = nI 882 := er.trans (show (if beatV (kX14 3) (kX14 8) (kX14 9) (kX14 12 4) 1 3 2 1 = 0 then -4 else nI (beatV (kX14 3) (kX14 8) (kX14 9) (kX14 12 4) 1 3 2 1)) = nI 882 by decide +kernel)
  refine lv_sipush (v := nI 882) hx hb dL_known_877 (by decide) ?_
  refine lv_icmp_ne (tgt := 1042) hx hb dL_known_880 (by decide) (fun c9 => absurd c9 (by decide)) (fun _ => ?_)
  refine lv_aload_n hx hb dL_known_883 rfl (lv_at hl 0 rfl) ?_
  refine lv_iconst (v := nI 1) hx hb dL_known_884 (by decide) ?_
  refine lv_iconst (v := nI 2) hx hb dL_known_885 (by decide) ?_
  refine lv_iconst (v := nI 2) hx hb dL_known_886 (by decide) ?_
  refine lv_iconst (v := nI 1) hx hb dL_known_887 (by decide) ?_
  refine o_call (o := (kX14, hh, 0, c0)) (As := [.int (nI 1), .int (nI 2), .int (nI 2), .int (nI 1)]) (rest := []) hF (U_beat_y l E tm tl D fs (kX14, hh, 0, c0) kXb14 1 2 2 1 (by omega) (by omega) (by omega) (by omega) (by omega) (by omega) (by omega)) (cwV 4 hts gL_known_X6_beat rfl rfl rfl (by decide +kernel) ⟨Nat.le_of_ble_eq_true rfl, Nat.le_of_ble_eq_true rfl⟩) hG hZ (fun _ h9 => h9) hO hS rfl hl.1 rfl (lv_room (Nat.le_of_ble_eq_true rfl)) dL_known_888 ⟨Nat.le_of_ble_eq_true rfl, Nat.le_of_ble_eq_true rfl⟩ (fun r9 o9 HZ locsZ hp hO hS hsz9 hfr9 => ?_)
  obtain ⟨er, rfl⟩ := hp
  obtain rfl : r9 = (-4) := er.trans (show (if beatV (kX14 3) (kX14 8) (kX14 9) (kX14 12 4) 1 2 2 1 = 0 then -4 else nI (beatV (kX14 3) (kX14 8) (kX14 9) (kX14 12 4) 1 2 2 1)) = (-4) by decide +kernel)
  refine lv_bipush (v := (-4)) hx hb dL_known_891 (by decide) ?_
  refine lv_icmp_ne (tgt := 1042) hx hb dL_known_893 (by decide) (fun c9 => absurd c9 (by decide)) (fun _ => ?_)
  refine lv_aload_n hx hb dL_known_896 rfl (lv_at hl 0 rfl) ?_
  refine lv_iconst (v := nI 1) hx hb dL_known_897 (by decide) ?_
  refine lv_iconst (v := nI 2) hx hb dL_known_898 (by decide) ?_
  refine lv_iconst (v := nI 0) hx hb dL_known_899 (by decide) ?_
  refine o_call (o := (kX14, hh, 0, c0)) (As := [.int (nI 1), .int (nI 2), .int (nI 0)]) (rest := []) hF (U_slowest_y l E tm tl D fs (kX14, hh, 0, c0) kXb14 1 2 0 (by omega) (by omega) (by omega) (by omega)) (cwV 3 hts gL_known_X6_slowest rfl rfl rfl (by decide +kernel) ⟨Nat.le_of_ble_eq_true rfl, Nat.le_of_ble_eq_true rfl⟩) hG hZ (fun _ h9 => h9) hO hS rfl hl.1 rfl (lv_room (Nat.le_of_ble_eq_true rfl)) dL_known_900 ⟨Nat.le_of_ble_eq_true rfl, Nat.le_of_ble_eq_true rfl⟩ (fun r9 o9 HZ locsZ hp hO hS hsz9 hfr9 => ?_)
  obtain ⟨er, rfl⟩ := hp
  have hs9 : slL (kX14 3) (kX14 8) (kX14 9) (kX14 12 4) 1 2 144 = (174, 7, 5) := by decide +kernel
  obtain rfl : r9 = nI 174 := er.trans (by dsimp only; rw [hs9]; decide)
  refine lv_sipush (v := nI 174) hx hb dL_known_903 (by decide) ?_
  refine lv_icmp_ne (tgt := 1042) hx hb dL_known_906 (by decide) (fun c9 => absurd c9 (by decide)) (fun _ => ?_)
  refine lv_aload_n hx hb dL_known_909 rfl (lv_at hl 0 rfl) ?_
  refine lv_iconst (v := nI 1) hx hb dL_known_910 (by decide) ?_
  refine lv_iconst (v := nI 2) hx hb dL_known_911 (by decide) ?_
  refine lv_iconst (v := nI 1) hx hb dL_known_912 (by decide) ?_
  refine o_call (o := (kX14, hh, 0, c0)) (As := [.int (nI 1), .int (nI 2), .int (nI 1)]) (rest := []) hF (U_slowest_y l E tm tl D fs (kX14, hh, 0, c0) kXb14 1 2 1 (by omega) (by omega) (by omega) (by omega)) (cwV 3 hts gL_known_X6_slowest rfl rfl rfl (by decide +kernel) ⟨Nat.le_of_ble_eq_true rfl, Nat.le_of_ble_eq_true rfl⟩) hG hZ (fun _ h9 => h9) hO hS rfl hl.1 rfl (lv_room (Nat.le_of_ble_eq_true rfl)) dL_known_913 ⟨Nat.le_of_ble_eq_true rfl, Nat.le_of_ble_eq_true rfl⟩ (fun r9 o9 HZ locsZ hp hO hS hsz9 hfr9 => ?_)
  obtain ⟨er, rfl⟩ := hp
  have hs9 : slL (kX14 3) (kX14 8) (kX14 9) (kX14 12 4) 1 2 144 = (174, 7, 5) := by decide +kernel
  obtain rfl : r9 = nI 7 := er.trans (by dsimp only; rw [hs9]; decide)
  refine lv_bipush (v := nI 7) hx hb dL_known_916 (by decide) ?_
  refine lv_icmp_ne (tgt := 1042) hx hb dL_known_918 (by decide) (fun c9 => absurd c9 (by decide)) (fun _ => ?_)
  refine lv_aload_n hx hb dL_known_921 rfl (lv_at hl 0 rfl) ?_
  refine lv_iconst (v := nI 1) hx hb dL_known_922 (by decide) ?_
  refine lv_iconst (v := nI 2) hx hb dL_known_923 (by decide) ?_
  refine lv_iconst (v := nI 2) hx hb dL_known_924 (by decide) ?_
  refine o_call (o := (kX14, hh, 0, c0)) (As := [.int (nI 1), .int (nI 2), .int (nI 2)]) (rest := []) hF (U_slowest_y l E tm tl D fs (kX14, hh, 0, c0) kXb14 1 2 2 (by omega) (by omega) (by omega) (by omega)) (cwV 3 hts gL_known_X6_slowest rfl rfl rfl (by decide +kernel) ⟨Nat.le_of_ble_eq_true rfl, Nat.le_of_ble_eq_true rfl⟩) hG hZ (fun _ h9 => h9) hO hS rfl hl.1 rfl (lv_room (Nat.le_of_ble_eq_true rfl)) dL_known_925 ⟨Nat.le_of_ble_eq_true rfl, Nat.le_of_ble_eq_true rfl⟩ (fun r9 o9 HZ locsZ hp hO hS hsz9 hfr9 => ?_)
  obtain ⟨er, rfl⟩ := hp
  have hs9 : slL (kX14 3) (kX14 8) (kX14 9) (kX14 12 4) 1 2 144 = (174, 7, 5) := by decide +kernel
  obtain rfl : r9 = nI 5 := er.trans (by dsimp only; rw [hs9]; decide)
  refine lv_iconst (v := nI 5) hx hb dL_known_928 (by decide) ?_
  refine lv_icmp_ne (tgt := 1042) hx hb dL_known_929 (by decide) (fun c9 => absurd c9 (by decide)) (fun _ => ?_)
  refine lv_aload_n hx hb dL_known_932 rfl (lv_at hl 0 rfl) ?_
  refine lv_iconst (v := nI 2) hx hb dL_known_933 (by decide) ?_
  refine lv_iconst (v := nI 1) hx hb dL_known_934 (by decide) ?_
  refine lv_iconst (v := nI 1) hx hb dL_known_935 (by decide) ?_
  refine o_call (o := (kX14, hh, 0, c0)) (As := [.int (nI 2), .int (nI 1), .int (nI 1)]) (rest := []) hF (U_slowest_y l E tm tl D fs (kX14, hh, 0, c0) kXb14 2 1 1 (by omega) (by omega) (by omega) (by omega)) (cwV 3 hts gL_known_X6_slowest rfl rfl rfl (by decide +kernel) ⟨Nat.le_of_ble_eq_true rfl, Nat.le_of_ble_eq_true rfl⟩) hG hZ (fun _ h9 => h9) hO hS rfl hl.1 rfl (lv_room (Nat.le_of_ble_eq_true rfl)) dL_known_936 ⟨Nat.le_of_ble_eq_true rfl, Nat.le_of_ble_eq_true rfl⟩ (fun r9 o9 HZ locsZ hp hO hS hsz9 hfr9 => ?_)
  obtain ⟨er, rfl⟩ := hp
  have hs9 : slL (kX14 3) (kX14 8) (kX14 9) (kX14 12 4) 2 1 144 = (174, 5, 7) := by decide +kernel
  obtain rfl : r9 = nI 5 := er.trans (by dsimp only; rw [hs9]; decide)
  refine lv_iconst (v := nI 5) hx hb dL_known_939 (by decide) ?_
  refine lv_icmp_ne (tgt := 1042) hx hb dL_known_940 (by decide) (fun c9 => absurd c9 (by decide)) (fun _ => ?_)
  refine lv_aload_n hx hb dL_known_943 rfl (lv_at hl 0 rfl) ?_
  refine lv_iconst (v := nI 0) hx hb dL_known_944 (by decide) ?_
  refine lv_iconst (v := nI 1) hx hb dL_known_945 (by decide) ?_
  refine lv_iconst (v := nI 0) hx hb dL_known_946 (by decide) ?_
  refine o_call (o := (kX14, hh, 0, c0)) (As := [.int (nI 0), .int (nI 1), .int (nI 0)]) (rest := []) hF (U_slowest_y l E tm tl D fs (kX14, hh, 0, c0) kXb14 0 1 0 (by omega) (by omega) (by omega) (by omega)) (cwV 3 hts gL_known_X6_slowest rfl rfl rfl (by decide +kernel) ⟨Nat.le_of_ble_eq_true rfl, Nat.le_of_ble_eq_true rfl⟩) hG hZ (fun _ h9 => h9) hO hS rfl hl.1 rfl (lv_room (Nat.le_of_ble_eq_true rfl)) dL_known_947 ⟨Nat.le_of_ble_eq_true rfl, Nat.le_of_ble_eq_true rfl⟩ (fun r9 o9 HZ locsZ hp hO hS hsz9 hfr9 => ?_)
  obtain ⟨er, rfl⟩ := hp
  have hs9 : slL (kX14 3) (kX14 8) (kX14 9) (kX14 12 4) 0 1 144 = (0, 0, 0) := by decide +kernel
  obtain rfl : r9 = (-4) := er.trans (by dsimp only; rw [hs9]; decide)
  refine lv_bipush (v := (-4)) hx hb dL_known_950 (by decide) ?_
  refine lv_icmp_ne (tgt := 1042) hx hb dL_known_952 (by decide) (fun c9 => absurd c9 (by decide)) (fun _ => ?_)
  refine lv_aload_n hx hb dL_known_955 rfl (lv_at hl 0 rfl) ?_
  refine lv_iconst (v := nI 2) hx hb dL_known_956 (by decide) ?_
  refine lv_ldc (v := nI 1334000) hx hb hown (hts (.constant RL 194 1334000) (by decide +kernel)) dL_known_957 ?_
  refine o_call (o := (kX14, hh, 0, c0)) (As := [.int (nI 2), .int (nI 1334000)]) (rest := []) hF (U_tune_y l E tm tl D fs (kX14, hh, 0, c0) 2 1334000 (by omega) (by omega) (by omega)) (cwV 2 hts gL_known_X6_tune rfl rfl rfl (by decide +kernel) ⟨Nat.le_of_ble_eq_true rfl, Nat.le_of_ble_eq_true rfl⟩) hG hZ (fun _ h9 => h9) hO hS rfl hl.1 rfl (lv_room (Nat.le_of_ble_eq_true rfl)) dL_known_959 ⟨Nat.le_of_ble_eq_true rfl, Nat.le_of_ble_eq_true rfl⟩ (fun r9 o9 HZ locsZ hp hO hS hsz9 hfr9 => ?_)
  obtain ⟨er, rfl⟩ := hp
  obtain rfl : r9 = nI 1780000 := er.trans (by (try dsimp only); decide +kernel)
  have hO : HO E D fs (kX15, kpH hh kX14, 0, c0) HZ := HO_ext (show EQX (tuX kX14 2 1334000) kX15 by unfold EQX; decide +kernel) (fun _ _ => rfl) hO
  generalize kpH hh kX14 = hh at hO
  refine lv_ldc (v := nI 1780000) hx hb hown (hts (.constant RL 195 1780000) (by decide +kernel)) dL_known_962 ?_
  refine lv_icmp_ne (tgt := 1042) hx hb dL_known_964 (by decide) (fun c9 => absurd c9 (by decide)) (fun _ => ?_)
  refine lv_aload_n hx hb dL_known_967 rfl (lv_at hl 0 rfl) ?_
  refine lv_iconst (v := nI 1) hx hb dL_known_968 (by decide) ?_
  refine lv_iconst (v := nI 1) hx hb dL_known_969 (by decide) ?_
  refine lv_iconst (v := nI 2) hx hb dL_known_970 (by decide) ?_
  refine lv_iconst (v := nI 1) hx hb dL_known_971 (by decide) ?_
  refine o_call (o := (kX15, hh, 0, c0)) (As := [.int (nI 1), .int (nI 1), .int (nI 2), .int (nI 1)]) (rest := []) hF (U_beat_y l E tm tl D fs (kX15, hh, 0, c0) kXb15 1 1 2 1 (by omega) (by omega) (by omega) (by omega) (by omega) (by omega) (by omega)) (cwV 4 hts gL_known_X6_beat rfl rfl rfl (by decide +kernel) ⟨Nat.le_of_ble_eq_true rfl, Nat.le_of_ble_eq_true rfl⟩) hG hZ (fun _ h9 => h9) hO hS rfl hl.1 rfl (lv_room (Nat.le_of_ble_eq_true rfl)) dL_known_972 ⟨Nat.le_of_ble_eq_true rfl, Nat.le_of_ble_eq_true rfl⟩ (fun r9 o9 HZ locsZ hp hO hS hsz9 hfr9 => ?_)
  obtain ⟨er, rfl⟩ := hp
  obtain rfl : r9 = (-4) := er.trans (show (if beatV (kX15 3) (kX15 8) (kX15 9) (kX15 12 4) 1 1 2 1 = 0 then -4 else nI (beatV (kX15 3) (kX15 8) (kX15 9) (kX15 12 4) 1 1 2 1)) = (-4) by decide +kernel)
  refine lv_bipush (v := (-4)) hx hb dL_known_975 (by decide) ?_
  refine lv_icmp_ne (tgt := 1042) hx hb dL_known_977 (by decide) (fun c9 => absurd c9 (by decide)) (fun _ => ?_)
  refine lv_aload_n hx hb dL_known_980 rfl (lv_at hl 0 rfl) ?_
  refine lv_iconst (v := nI 1) hx hb dL_known_981 (by decide) ?_
  refine lv_iconst (v := nI 2) hx hb dL_known_982 (by decide) ?_
  refine o_call (o := (kX15, hh, 0, c0)) (As := [.int (nI 1), .int (nI 2)]) (rest := []) hF (U_ticksTo_y l E tm tl D fs (kX15, hh, 0, c0) kXb15 1 2 (by omega) (by omega) (by omega)) (cwV 2 hts gL_known_X6_ticksTo rfl rfl rfl (by decide +kernel) ⟨Nat.le_of_ble_eq_true rfl, Nat.le_of_ble_eq_true rfl⟩) hG hZ (fun _ h9 => h9) hO hS rfl hl.1 rfl (lv_room (Nat.le_of_ble_eq_true rfl)) dL_known_983 ⟨Nat.le_of_ble_eq_true rfl, Nat.le_of_ble_eq_true rfl⟩ (fun r9 o9 HZ locsZ hp hO hS hsz9 hfr9 => ?_)
  obtain ⟨er, rfl⟩ := hp
  obtain rfl : r9 = nI 0 := er.trans (by (try dsimp only); decide +kernel)
  refine lv_if_ne (tgt := 1042) hx hb dL_known_986 (by decide) (fun c9 => absurd c9 (by decide)) (fun _ => ?_)
  refine lv_aload_n hx hb dL_known_989 rfl (lv_at hl 0 rfl) ?_
  refine lv_iconst (v := nI 1) hx hb dL_known_990 (by decide) ?_
  refine o_call (o := (kX15, hh, 0, c0)) (As := [.int (nI 1)]) (rest := []) hF (U_damp_y l E tm tl D fs (kX15, hh, 0, c0) kXb15 1 (by omega)) (cwV 1 hts gL_known_X6_damp rfl rfl rfl (by decide +kernel) ⟨Nat.le_of_ble_eq_true rfl, Nat.le_of_ble_eq_true rfl⟩) hG hZ (fun _ h9 => h9) hO hS rfl hl.1 rfl (lv_room (Nat.le_of_ble_eq_true rfl)) dL_known_991 ⟨Nat.le_of_ble_eq_true rfl, Nat.le_of_ble_eq_true rfl⟩ (fun r9 o9 HZ locsZ hp hO hS hsz9 hfr9 => ?_)
  obtain ⟨er, rfl⟩ := hp
  obtain rfl : r9 = nI 6 := er.trans (by (try dsimp only); decide +kernel)
  have hO : HO E D fs (kX16, kpH hh kX15, 0, c0) HZ := HO_ext (show EQX (daX kX15 1) kX16 by unfold EQX; decide +kernel) (fun _ _ => rfl) hO
  generalize kpH hh kX15 = hh at hO
  refine lv_bipush (v := nI 6) hx hb dL_known_994 (by decide) ?_
  refine lv_icmp_ne (tgt := 1042) hx hb dL_known_996 (by decide) (fun c9 => absurd c9 (by decide)) (fun _ => ?_)
  refine lv_aload_n hx hb dL_known_999 rfl (lv_at hl 0 rfl) ?_
  refine lv_iconst (v := nI 1) hx hb dL_known_1000 (by decide) ?_
  refine lv_bipush (v := nI 7) hx hb dL_known_1001 (by decide) ?_
  refine o_call (o := (kX16, hh, 0, c0)) (As := [.int (nI 1), .int (nI 7)]) (rest := []) hF (U_stringInfo_y l E tm tl D fs (kX16, hh, 0, c0) kXb16 1 7 (by omega) (by omega)) (cwV 2 hts gL_known_X6_stringInfo rfl rfl rfl (by decide +kernel) ⟨Nat.le_of_ble_eq_true rfl, Nat.le_of_ble_eq_true rfl⟩) hG hZ (fun _ h9 => h9) hO hS rfl hl.1 rfl (lv_room (Nat.le_of_ble_eq_true rfl)) dL_known_1003 ⟨Nat.le_of_ble_eq_true rfl, Nat.le_of_ble_eq_true rfl⟩ (fun r9 o9 HZ locsZ hp hO hS hsz9 hfr9 => ?_)
  obtain ⟨er, rfl⟩ := hp
  obtain rfl : r9 = nI 0 := er.trans (by (try dsimp only); decide +kernel)
  refine lv_if_ne (tgt := 1042) hx hb dL_known_1006 (by decide) (fun c9 => absurd c9 (by decide)) (fun _ => ?_)
  refine lv_aload_n hx hb dL_known_1009 rfl (lv_at hl 0 rfl) ?_
  refine lv_iconst (v := nI 1) hx hb dL_known_1010 (by decide) ?_
  refine o_call (o := (kX16, hh, 0, c0)) (As := [.int (nI 1)]) (rest := []) hF (U_damp_y l E tm tl D fs (kX16, hh, 0, c0) kXb16 1 (by omega)) (cwV 1 hts gL_known_X6_damp rfl rfl rfl (by decide +kernel) ⟨Nat.le_of_ble_eq_true rfl, Nat.le_of_ble_eq_true rfl⟩) hG hZ (fun _ h9 => h9) hO hS rfl hl.1 rfl (lv_room (Nat.le_of_ble_eq_true rfl)) dL_known_1011 ⟨Nat.le_of_ble_eq_true rfl, Nat.le_of_ble_eq_true rfl⟩ (fun r9 o9 HZ locsZ hp hO hS hsz9 hfr9 => ?_)
  obtain ⟨er, rfl⟩ := hp
  obtain rfl : r9 = nI 0 := er.trans (by (try dsimp only); decide +kernel)
  have hO : HO E D fs (kX17, kpH hh kX16, 0, c0) HZ := HO_ext (show EQX (daX kX16 1) kX17 by unfold EQX; decide +kernel) (fun _ _ => rfl) hO
  generalize kpH hh kX16 = hh at hO
  refine lv_if_ne (tgt := 1042) hx hb dL_known_1014 (by decide) (fun c9 => absurd c9 (by decide)) (fun _ => ?_)
  refine lv_aload_n hx hb dL_known_1017 rfl (lv_at hl 0 rfl) ?_
  refine lv_iconst (v := nI 1) hx hb dL_known_1018 (by decide) ?_
  refine lv_bipush (v := nI 8) hx hb dL_known_1019 (by decide) ?_
  refine o_call (o := (kX17, hh, 0, c0)) (As := [.int (nI 1), .int (nI 8)]) (rest := []) hF (U_stringInfo_y l E tm tl D fs (kX17, hh, 0, c0) kXb17 1 8 (by omega) (by omega)) (cwV 2 hts gL_known_X6_stringInfo rfl rfl rfl (by decide +kernel) ⟨Nat.le_of_ble_eq_true rfl, Nat.le_of_ble_eq_true rfl⟩) hG hZ (fun _ h9 => h9) hO hS rfl hl.1 rfl (lv_room (Nat.le_of_ble_eq_true rfl)) dL_known_1021 ⟨Nat.le_of_ble_eq_true rfl, Nat.le_of_ble_eq_true rfl⟩ (fun r9 o9 HZ locsZ hp hO hS hsz9 hfr9 => ?_)
  obtain ⟨er, rfl⟩ := hp
  obtain rfl : r9 = nI 1 := er.trans (by (try dsimp only); decide +kernel)
  refine lv_iconst (v := nI 1) hx hb dL_known_1024 (by decide) ?_
  refine lv_icmp_ne (tgt := 1042) hx hb dL_known_1025 (by decide) (fun c9 => absurd c9 (by decide)) (fun _ => ?_)
  refine lv_aload_n hx hb dL_known_1028 rfl (lv_at hl 0 rfl) ?_
  refine lv_iconst (v := nI 2) hx hb dL_known_1029 (by decide) ?_
  refine o_call (o := (kX17, hh, 0, c0)) (As := [.int (nI 2)]) (rest := []) hF (U_count_y l E tm tl D fs (kX17, hh, 0, c0) kXb17 2 (by omega)) (cwV 1 hts gL_known_X6_count rfl rfl rfl (by decide +kernel) ⟨Nat.le_of_ble_eq_true rfl, Nat.le_of_ble_eq_true rfl⟩) hG hZ (fun _ h9 => h9) hO hS rfl hl.1 rfl (lv_room (Nat.le_of_ble_eq_true rfl)) dL_known_1030 ⟨Nat.le_of_ble_eq_true rfl, Nat.le_of_ble_eq_true rfl⟩ (fun r9 o9 HZ locsZ hp hO hS hsz9 hfr9 => ?_)
  obtain ⟨er, rfl⟩ := hp
  obtain rfl : r9 = nI 6 := er.trans (show nI (hrL (kX17 9) (kX17 12 4) 4) = nI 6 by decide +kernel)
  refine lv_bipush (v := nI 6) hx hb dL_known_1033 (by decide) ?_
  refine lv_icmp_ne (tgt := 1042) hx hb dL_known_1035 (by decide) (fun c9 => absurd c9 (by decide)) (fun _ => ?_)
  refine lv_iconst (v := nI 1) hx hb dL_known_1038 (by decide) ?_
  refine lv_goto (tgt := 1043) hx hb dL_known_1039 (by decide) ?_
  exact hret _ _ _ _ hS dL_known_1043
