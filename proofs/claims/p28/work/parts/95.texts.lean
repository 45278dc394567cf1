/-! ===== texts ===== -/
theorem HO_txt {E : zE} {D : Nat → Prop} {fs : Nat} {X : Nat → Nat → Nat} {hl : List (Nat → Nat → Nat)} {len : Nat} {Dh : Nat → Nat} {H : Heap} {t : Nat × (Nat → Nat)} (e1 : t.1 = len) (e2 : ∀ i, i < 80 → t.2 i = Dh i) (h : HO E D fs (X, hl, t.1, t.2) H) : HO E D fs (X, hl, len, Dh) H := by
  subst e1
  exact HO_ext ⟨fun i _ => ⟨rfl, rfl, rfl⟩, fun i _ => ⟨rfl, rfl, rfl, rfl, rfl, rfl, rfl⟩, fun i _ => rfl, fun i _ => ⟨rfl, rfl⟩, fun i _ => rfl⟩ e2 h
theorem plS_no {Ch : Nat → Nat} {len k p : Nat} {X : Nat → Nat → Nat} (h : ¬ okN Ch len p) : plS Ch len (k + 1) X p = (X, 0) := by
  simp only [plS]
  rw [if_neg h]
theorem fadeN_0 {lo hi da n d : Nat} (k : Nat) : fadeN lo hi da n d k 0 = 0 := fadeN_z (t := 0) rfl k (Nat.zero_le k)
theorem mhL_z {A : Nat → Nat} {h s : Nat} (hs : s < 4) (e : ∀ i, i < 48 → A i = 0) : ∀ k, k ≤ 12 → mhL A h s k = 0
  | 0, _ => rfl
  | k + 1, hk => by
    simp only [mhL]
    rw [e (s * 12 + k) (by omega), if_neg (by omega)]
    exact mhL_z hs e k (by omega)
theorem hrL_z {A : Nat → Nat} {h : Nat} (e : ∀ i, i < 48 → A i = 0) : ∀ k, k ≤ 4 → hrL A h k = 0
  | 0, _ => rfl
  | k + 1, hk => by
    simp only [hrL]
    rw [hrL_z e k (by omega), mhL_z (by omega) e 12 (Nat.le_refl _)]
    rfl

def tX0 : Nat → Nat → Nat := ofL [] [] [] [1000000, 1334000, 1780000, 2375000] [] [] [] [] [] [] [] [] [10, 5, 500, 1000, 50] 0 0 0 0
theorem tXb0 : XB tX0 := by unfold XB; decide +kernel
theorem iwL_texts_X6 : ∀ w ∈ wsX60, w ∈ wsL_texts := by decide +kernel
def tX1 : Nat → Nat → Nat := ofL [400] [1000] [] [1000000, 1334000, 1780000, 2375000] [] [] [] [] [] [] [] [] [10, 5, 500, 1000, 50] 1 0 0 0
theorem tXb1 : XB tX1 := by unfold XB; decide +kernel
def tX2 : Nat → Nat → Nat := ofL [400, 800] [1000, 900] [] [1000000, 1334000, 1780000, 2375000] [] [] [] [] [] [] [] [] [10, 5, 500, 1000, 50] 2 0 0 0
theorem tXb2 : XB tX2 := by unfold XB; decide +kernel
def tX3 : Nat → Nat → Nat := ofL [400, 800, 1200] [1000, 900, 800] [] [1000000, 1334000, 1780000, 2375000] [] [] [] [] [] [] [] [] [10, 5, 500, 1000, 50] 3 0 0 0
theorem tXb3 : XB tX3 := by unfold XB; decide +kernel
theorem tGd : gdX (lkL [49, 58, 50, 33, 57, 43, 51, 59, 49, 58, 48, 50, 33, 52, 59]) 15 80 tX3 0 := by
  refine ⟨tXb3, fun _ => ⟨by unfold XB; decide +kernel, by unfold XB; decide +kernel, ⟨by unfold XB; decide +kernel, fun _ => ⟨by unfold XB; decide +kernel, by unfold XB; decide +kernel, ⟨by unfold XB; decide +kernel, fun h9 => absurd h9 (by (try dsimp only); decide +kernel)⟩⟩⟩⟩⟩
def tX4 : Nat → Nat → Nat := ofL [400, 800, 1200] [1000, 900, 800] [0, 13] [1000000, 1334000, 1780000, 2375000] [0, 2] [] [0, 2] [0, 2] [0, 800] [0, 0, 0, 0, 0, 0, 0, 0, 0, 0, 0, 0, 440, 437, 432, 428, 423, 419, 414, 410, 406, 401, 398, 394] [15] [0, 0, 0, 0, 0, 0, 0, 0, 0, 0, 0, 0, 0, 0, 0, 2] [10, 5, 500, 1000, 50] 3 1 3 0
theorem tXb4 : XB tX4 := by unfold XB; decide +kernel
def tR (k : Nat) : Nat → Nat → Nat := ofL [400, 800, 1200] [1000, 900, 800] [] [1000000, 1334000, 1780000, 2375000] [] [] [] [] [] [] [] [] [10, 5, 500, 1000, 50] 3 0 (500 * k) 0
theorem tR0 : XB (tR 0) := by unfold XB; decide +kernel
theorem tRb (k : Nat) (hk : k ≤ 200) : XB (tR k) := by
  obtain ⟨a1, a2, a3, a4, a5, a6, a7, a8, a9, b1, b2, b3, b4, b5, b6, b7, b8, b9, -⟩ := tR0
  exact ⟨a1, a2, a3, a4, a5, a6, a7, a8, a9, b1, b2, b3, b4, b5, b6, b7, b8, b9, by show 500 * k ≤ 100000; omega⟩
theorem tRam (k : Nat) : ∀ i, i < 48 → lgX (tR k) 500 9 i = 0 := by
  intro i hi
  show lgL (lkL []) (lkL []) _ (lkL []) 500 48 i = 0
  simp only [lgL]
  rw [if_pos hi]
  exact fadeN_0 500
theorem tRs (k : Nat) : EQX (lgX (tR k) 500) (tR (k + 1)) := by
  refine ⟨fun i hi => ⟨rfl, rfl, rfl⟩, fun i hi => ⟨rfl, rfl, rfl, rfl, rfl, rfl, ?_⟩, fun i hi => (tRam k i hi).trans ?_, fun i hi => ⟨rfl, rfl⟩, fun i hi => rfl⟩
  · obtain rfl | rfl | rfl | rfl : i = 0 ∨ i = 1 ∨ i = 2 ∨ i = 3 := by omega
    · rfl
    · rfl
    · show 500 * k + 500 = 500 * (k + 1)
      omega
    · rfl
  · show 0 = lkL [] i
    rfl
set_option maxHeartbeats 16000000 in
set_option maxRecDepth 100000 in
theorem c_L_texts (l : Launch) (E : zE) (tm tl : Nat) : nM l yL_texts wsL_texts ({ frames := 8, cells := 90, slots := 1284, locals := 183 }) E tm tl 90 1284 := by
  refine nM.start (own := RL) rfl (by (try dsimp only); decide +kernel) rfl ?_
  intro pZ eZ sZ mZ argsZ belowZ methZ cZ QZ hF hret hG hAO hZ ls hl
  obtain ⟨hx, hb, hml, hown, hts⟩ := id hF
  have hA : ∀ q : Nat, sZ.heap.size ≤ q → (fun q : Nat => sZ.heap.size ≤ q) q := fun _ h => h
  generalize hDq : (fun q : Nat => sZ.heap.size ≤ q) = D at hA hZ hret
  have hS : va_S D sZ.heap sZ.heap [] := va_S.rf
  have hP : va_P E.1 vwCl [] sZ.heap := zP_nil
  have hD : va_D D [] := ⟨fun i j p q h => by simp at h, fun k q h => by simp at h⟩
  refine va_new (ci := 6) (fs := [.null, .null, .null]) (C := RX6) (T := TX6) (N := 3) hx hb hts iwL_texts_X6 tyX6 tyX6_ok hown (hts (.classLink RL 14 RX6) (by (try dsimp only); decide +kernel)) (hts (.instantiable RX6 3) (by (try dsimp only); decide +kernel)) (hts (.initialized RX6) (by (try dsimp only); decide +kernel)) hG.1 hP hD hS hA rfl (fun j hj => by rcases (show j = 0 ∨ j = 1 ∨ j = 2 by omega) with rfl | rfl | rfl <;> rfl) (Nat.le_of_ble_eq_true rfl) (Nat.le_of_ble_eq_true rfl) dL_texts_0 (fun fs HZ hP hD hS => ?_)
  have hP : va_P E.1 vwCl [(fs, .inr (6, [.null, .null, .null]))] _ := hP
  have hD : va_D D [(fs, .inr (6, [.null, .null, .null]))] := hD
  refine lv_dup hx hb dL_texts_3 rfl ?_
  refine z_ctor (wr := []) rfl (va_runI (As := []) (rest := [.ref fs]) hF (c_X6_init l E fs HZ.size) (cwI 0 hts gL_texts_X6_init rfl rfl rfl (hts (.initialized RX6) (by (try dsimp only); decide +kernel)) (hts (.methodLink RL 112 yX6_init) (by (try dsimp only); decide +kernel)) (hts (.instanceMethod yX6_init) (by (try dsimp only); decide +kernel)) rfl (by (try dsimp only); decide +kernel) ⟨Nat.le_of_ble_eq_true rfl, Nat.le_of_ble_eq_true rfl⟩) (z_preN hP hG hAO) rfl rfl hl.1 rfl (lv_room (Nat.le_of_ble_eq_true rfl)) dL_texts_4 ⟨Nat.le_of_ble_eq_true rfl, Nat.le_of_ble_eq_true rfl⟩) hP hD hS hA (fun w9 HZ locsZ hw hP hD hS => ?_)
  obtain ⟨sc, hi, ch, rw, ad, adA, adB, adC, adD, rfl⟩ := hw
  rw [List.nil_append, oW_new] at hP hD
  have hO := HO_new hP hD
  have hO : HO E D fs (tX0, [], 0, (lkL [])) HZ := HO_ext (by unfold EQX; decide +kernel) (fun i hi => rfl) hO
  refine lv_astore_n (lv' := [(0, .ref fs)]) hx hb dL_texts_7 rfl hl (by decide) rfl (fun ls hl => ?_)
  refine lv_aload_n hx hb dL_texts_8 rfl (lv_at hl 0 rfl) ?_
  refine lv_sipush (v := nI 400) hx hb dL_texts_9 (by decide) ?_
  refine lv_sipush (v := nI 1000) hx hb dL_texts_12 (by decide) ?_
  refine o_call (o := (tX0, [], 0, (lkL []))) (As := [.int (nI 400), .int (nI 1000)]) (rest := []) hF (U_fret_y l E tm tl D fs (tX0, [], 0, (lkL [])) tXb0 400 1000 (by omega) (by omega) (by omega) (by (try dsimp only); decide +kernel) (by (try dsimp only); decide +kernel)) (cwV 2 hts gL_texts_X6_fret rfl rfl rfl (by decide +kernel) ⟨Nat.le_of_ble_eq_true rfl, Nat.le_of_ble_eq_true rfl⟩) hG hZ (fun _ h9 => h9) hO hS rfl hl.1 rfl (lv_room (Nat.le_of_ble_eq_true rfl)) dL_texts_15 ⟨Nat.le_of_ble_eq_true rfl, Nat.le_of_ble_eq_true rfl⟩ (fun r9 o9 HZ locsZ hp hO hS hsz9 hfr9 => ?_)
  obtain ⟨er, rfl⟩ := hp
  obtain rfl : r9 = nI 1 := er.trans (by (try dsimp only); decide +kernel)
  have hO : HO E D fs (tX1, [tX0], 0, (lkL [])) HZ := HO_ext (by unfold EQX; decide +kernel) (fun _ _ => rfl) hO
  refine lv_iconst (v := nI 1) hx hb dL_texts_18 (by decide) ?_
  refine lv_icmp_ne (tgt := 67) hx hb dL_texts_19 (by decide) (fun c9 => absurd c9 (by decide)) (fun _ => ?_)
  refine lv_aload_n hx hb dL_texts_22 rfl (lv_at hl 0 rfl) ?_
  refine lv_sipush (v := nI 800) hx hb dL_texts_23 (by decide) ?_
  refine lv_sipush (v := nI 900) hx hb dL_texts_26 (by decide) ?_
  refine o_call (o := (tX1, [tX0], 0, (lkL []))) (As := [.int (nI 800), .int (nI 900)]) (rest := []) hF (U_fret_y l E tm tl D fs (tX1, [tX0], 0, (lkL [])) tXb1 800 900 (by omega) (by omega) (by omega) (by (try dsimp only); decide +kernel) (by (try dsimp only); decide +kernel)) (cwV 2 hts gL_texts_X6_fret rfl rfl rfl (by decide +kernel) ⟨Nat.le_of_ble_eq_true rfl, Nat.le_of_ble_eq_true rfl⟩) hG hZ (fun _ h9 => h9) hO hS rfl hl.1 rfl (lv_room (Nat.le_of_ble_eq_true rfl)) dL_texts_29 ⟨Nat.le_of_ble_eq_true rfl, Nat.le_of_ble_eq_true rfl⟩ (fun r9 o9 HZ locsZ hp hO hS hsz9 hfr9 => ?_)
  obtain ⟨er, rfl⟩ := hp
  obtain rfl : r9 = nI 2 := er.trans (by (try dsimp only); decide +kernel)
  have hO : HO E D fs (tX2, [tX0, tX1], 0, (lkL [])) HZ := HO_ext (by unfold EQX; decide +kernel) (fun _ _ => rfl) hO
  refine lv_iconst (v := nI 2) hx hb dL_texts_32 (by decide) ?_
  refine lv_icmp_ne (tgt := 67) hx hb dL_texts_33 (by decide) (fun c9 => absurd c9 (by decide)) (fun _ => ?_)
  refine lv_aload_n hx hb dL_texts_36 rfl (lv_at hl 0 rfl) ?_
  refine lv_sipush (v := nI 1200) hx hb dL_texts_37 (by decide) ?_
  refine lv_sipush (v := nI 800) hx hb dL_texts_40 (by decide) ?_
  refine o_call (o := (tX2, [tX0, tX1], 0, (lkL []))) (As := [.int (nI 1200), .int (nI 800)]) (rest := []) hF (U_fret_y l E tm tl D fs (tX2, [tX0, tX1], 0, (lkL [])) tXb2 1200 800 (by omega) (by omega) (by omega) (by (try dsimp only); decide +kernel) (by (try dsimp only); decide +kernel)) (cwV 2 hts gL_texts_X6_fret rfl rfl rfl (by decide +kernel) ⟨Nat.le_of_ble_eq_true rfl, Nat.le_of_ble_eq_true rfl⟩) hG hZ (fun _ h9 => h9) hO hS rfl hl.1 rfl (lv_room (Nat.le_of_ble_eq_true rfl)) dL_texts_43 ⟨Nat.le_of_ble_eq_true rfl, Nat.le_of_ble_eq_true rfl⟩ (fun r9 o9 HZ locsZ hp hO hS hsz9 hfr9 => ?_)
  obtain ⟨er, rfl⟩ := hp
  obtain rfl : r9 = nI 3 := er.trans (by (try dsimp only); decide +kernel)
  have hO : HO E D fs (tX3, [tX0, tX1, tX2], 0, (lkL [])) HZ := HO_ext (by unfold EQX; decide +kernel) (fun _ _ => rfl) hO
  refine lv_iconst (v := nI 3) hx hb dL_texts_46 (by decide) ?_
  refine lv_icmp_ne (tgt := 67) hx hb dL_texts_47 (by decide) (fun c9 => absurd c9 (by decide)) (fun _ => ?_)
  refine lv_aload_n hx hb dL_texts_50 rfl (lv_at hl 0 rfl) ?_
  refine o_call (o := (tX3, [tX0, tX1, tX2], 0, (lkL []))) (As := []) (rest := []) hF (U_play_y l E tm tl D fs (tX3, [tX0, tX1, tX2], 0, (lkL [])) (by exact tXb3) (by (try dsimp only); decide +kernel) ⟨tXb3, fun h9 => absurd h9 (by (try dsimp only); decide +kernel)⟩) (cwV 0 hts gL_texts_X6_play rfl rfl rfl (by decide +kernel) ⟨Nat.le_of_ble_eq_true rfl, Nat.le_of_ble_eq_true rfl⟩) hG hZ (fun _ h9 => h9) hO hS rfl hl.1 rfl (lv_room (Nat.le_of_ble_eq_true rfl)) dL_texts_51 ⟨Nat.le_of_ble_eq_true rfl, Nat.le_of_ble_eq_true rfl⟩ (fun r9 o9 HZ locsZ hp hO hS hsz9 hfr9 => ?_)
  obtain ⟨er, rfl⟩ := hp
  have e9 : plS (lkL []) 0 80 tX3 0 = (tX3, 0) := plS_no (by (try dsimp only); decide +kernel)
  obtain rfl : r9 = nI 0 := er.trans (by show nI (plS (lkL []) 0 80 tX3 0).2 = nI 0; rw [e9])
  have hO : HO E D fs (okp (tX3, [tX0, tX1, tX2], 0, lkL []) (plS (lkL []) 0 80 tX3 0).1) HZ := hO
  rw [e9] at hO
  have hO : HO E D fs (tX3, [tX0, tX1, tX2, tX3], 0, (lkL [])) HZ := hO
  refine lv_if_ne (tgt := 67) hx hb dL_texts_54 (by decide) (fun c9 => absurd c9 (by decide)) (fun _ => ?_)
  refine lv_aload_n hx hb dL_texts_57 rfl (lv_at hl 0 rfl) ?_
  refine lv_bipush (v := nI 12) hx hb dL_texts_58 (by decide) ?_
  refine o_call (o := (tX3, [tX0, tX1, tX2, tX3], 0, (lkL []))) (As := [.int (nI 12)]) (rest := []) hF (U_count_y l E tm tl D fs (tX3, [tX0, tX1, tX2, tX3], 0, (lkL [])) tXb3 12 (by omega)) (cwV 1 hts gL_texts_X6_count rfl rfl rfl (by decide +kernel) ⟨Nat.le_of_ble_eq_true rfl, Nat.le_of_ble_eq_true rfl⟩) hG hZ (fun _ h9 => h9) hO hS rfl hl.1 rfl (lv_room (Nat.le_of_ble_eq_true rfl)) dL_texts_60 ⟨Nat.le_of_ble_eq_true rfl, Nat.le_of_ble_eq_true rfl⟩ (fun r9 o9 HZ locsZ hp hO hS hsz9 hfr9 => ?_)
  obtain ⟨er, rfl⟩ := hp
  obtain rfl : r9 = nI 4 := er.trans (by (try dsimp only); decide +kernel)
  refine lv_iconst (v := nI 4) hx hb dL_texts_63 (by decide) ?_
  refine lv_icmp_eq (tgt := 69) hx hb dL_texts_64 (by decide) (fun _ => ?_) (fun c9 => absurd c9 (by decide))
  refine lv_aload_n hx hb dL_texts_69 rfl (lv_at hl 0 rfl) ?_
  refine lv_ldc2 (v := 53026473718075) hx hb hown (hts (.constantLong RL 116 53026473718075) (by decide +kernel)) dL_texts_70 ?_
  refine lv_lconst (v := 0) hx hb dL_texts_73 (by decide) ?_
  refine lv_bipush (v := (-4)) hx hb dL_texts_74 (by decide) ?_
  refine lv_bipush (v := (-4)) hx hb dL_texts_76 (by decide) ?_
  refine o_callS (o := (tX3, [tX0, tX1, tX2, tX3], 0, (lkL []))) (As := [.ref fs, .long (53026473718075 : Int64), .long (0 : Int64), .int (-4), .int (-4)]) (rest := []) hF (c_L_isFault l E tm tl D fs (tX3, [tX0, tX1, tX2, tX3], 0, (lkL [])) tXb3 (53026473718075 : Int64) (0 : Int64) (-4) (-4) (lkL [59, 49, 33, 48, 58, 48]) (lkL []) (by unfold okW; decide +kernel) (by unfold okW; decide +kernel) (by (try dsimp only); decide +kernel) (by (try dsimp only); decide +kernel)) (cwS 5 hts gL_texts_L_isFault rfl rfl rfl (by decide +kernel) ⟨Nat.le_of_ble_eq_true rfl, Nat.le_of_ble_eq_true rfl⟩) hG hZ (fun _ h9 => h9) hO hS rfl hl.1 rfl (lv_room (Nat.le_of_ble_eq_true rfl)) dL_texts_78 ⟨Nat.le_of_ble_eq_true rfl, Nat.le_of_ble_eq_true rfl⟩ (fun r9 o9 HZ locsZ hp hO hS hsz9 hfr9 => ?_)
  obtain ⟨rfl, rfl⟩ := hp
  have hO : HO E D fs (tX3, [tX0, tX1, tX2, tX3], 6, (lkL [48, 58, 48, 33, 49, 59])) HZ := HO_txt (by (try dsimp only); decide +kernel) (by (try dsimp only); decide +kernel) hO
  refine lv_if_eq (tgt := 125) hx hb dL_texts_81 (by decide) (fun c9 => absurd c9 (by decide)) (fun _ => ?_)
  refine lv_aload_n hx hb dL_texts_84 rfl (lv_at hl 0 rfl) ?_
  refine lv_ldc2 (v := 57424520229179) hx hb hown (hts (.constantLong RL 122 57424520229179) (by decide +kernel)) dL_texts_85 ?_
  refine lv_lconst (v := 0) hx hb dL_texts_88 (by decide) ?_
  refine lv_iconst (v := nI 0) hx hb dL_texts_89 (by decide) ?_
  refine lv_iconst (v := nI 1) hx hb dL_texts_90 (by decide) ?_
  refine o_callS (o := (tX3, [tX0, tX1, tX2, tX3], 6, (lkL [48, 58, 48, 33, 49, 59]))) (As := [.ref fs, .long (57424520229179 : Int64), .long (0 : Int64), .int (nI 0), .int (nI 1)]) (rest := []) hF (c_L_isFault l E tm tl D fs (tX3, [tX0, tX1, tX2, tX3], 6, (lkL [48, 58, 48, 33, 49, 59])) tXb3 (57424520229179 : Int64) (0 : Int64) (nI 0) (nI 1) (lkL [59, 49, 33, 48, 58, 52]) (lkL []) (by unfold okW; decide +kernel) (by unfold okW; decide +kernel) (by (try dsimp only); decide +kernel) (by (try dsimp only); decide +kernel)) (cwS 5 hts gL_texts_L_isFault rfl rfl rfl (by decide +kernel) ⟨Nat.le_of_ble_eq_true rfl, Nat.le_of_ble_eq_true rfl⟩) hG hZ (fun _ h9 => h9) hO hS rfl hl.1 rfl (lv_room (Nat.le_of_ble_eq_true rfl)) dL_texts_91 ⟨Nat.le_of_ble_eq_true rfl, Nat.le_of_ble_eq_true rfl⟩ (fun r9 o9 HZ locsZ hp hO hS hsz9 hfr9 => ?_)
  obtain ⟨rfl, rfl⟩ := hp
  have hO : HO E D fs (tX3, [tX0, tX1, tX2, tX3], 6, (lkL [52, 58, 48, 33, 49, 59])) HZ := HO_txt (by (try dsimp only); decide +kernel) (by (try dsimp only); decide +kernel) hO
  refine lv_if_eq (tgt := 125) hx hb dL_texts_94 (by decide) (fun c9 => absurd c9 (by decide)) (fun _ => ?_)
  refine lv_aload_n hx hb dL_texts_97 rfl (lv_at hl 0 rfl) ?_
  refine lv_ldc2 (v := 53026540826939) hx hb hown (hts (.constantLong RL 124 53026540826939) (by decide +kernel)) dL_texts_98 ?_
  refine lv_lconst (v := 0) hx hb dL_texts_101 (by decide) ?_
  refine lv_iconst (v := nI 0) hx hb dL_texts_102 (by decide) ?_
  refine lv_iconst (v := nI 2) hx hb dL_texts_103 (by decide) ?_
  refine o_callS (o := (tX3, [tX0, tX1, tX2, tX3], 6, (lkL [52, 58, 48, 33, 49, 59]))) (As := [.ref fs, .long (53026540826939 : Int64), .long (0 : Int64), .int (nI 0), .int (nI 2)]) (rest := []) hF (c_L_isFault l E tm tl D fs (tX3, [tX0, tX1, tX2, tX3], 6, (lkL [52, 58, 48, 33, 49, 59])) tXb3 (53026540826939 : Int64) (0 : Int64) (nI 0) (nI 2) (lkL [59, 49, 33, 52, 58, 48]) (lkL []) (by unfold okW; decide +kernel) (by unfold okW; decide +kernel) (by (try dsimp only); decide +kernel) (by (try dsimp only); decide +kernel)) (cwS 5 hts gL_texts_L_isFault rfl rfl rfl (by decide +kernel) ⟨Nat.le_of_ble_eq_true rfl, Nat.le_of_ble_eq_true rfl⟩) hG hZ (fun _ h9 => h9) hO hS rfl hl.1 rfl (lv_room (Nat.le_of_ble_eq_true rfl)) dL_texts_104 ⟨Nat.le_of_ble_eq_true rfl, Nat.le_of_ble_eq_true rfl⟩ (fun r9 o9 HZ locsZ hp hO hS hsz9 hfr9 => ?_)
  obtain ⟨rfl, rfl⟩ := hp
  have hO : HO E D fs (tX3, [tX0, tX1, tX2, tX3], 6, (lkL [48, 58, 52, 33, 49, 59])) HZ := HO_txt (by (try dsimp only); decide +kernel) (by (try dsimp only); decide +kernel) hO
  refine lv_if_eq (tgt := 125) hx hb dL_texts_107 (by decide) (fun c9 => absurd c9 (by decide)) (fun _ => ?_)
  refine lv_aload_n hx hb dL_texts_110 rfl (lv_at hl 0 rfl) ?_
  refine lv_ldc2 (v := 53026524049723) hx hb hown (hts (.constantLong RL 126 53026524049723) (by decide +kernel)) dL_texts_111 ?_
  refine lv_lconst (v := 0) hx hb dL_texts_114 (by decide) ?_
  refine lv_bipush (v := (-4)) hx hb dL_texts_115 (by decide) ?_
  refine lv_bipush (v := (-4)) hx hb dL_texts_117 (by decide) ?_
  refine o_callS (o := (tX3, [tX0, tX1, tX2, tX3], 6, (lkL [48, 58, 52, 33, 49, 59]))) (As := [.ref fs, .long (53026524049723 : Int64), .long (0 : Int64), .int (-4), .int (-4)]) (rest := []) hF (c_L_isFault l E tm tl D fs (tX3, [tX0, tX1, tX2, tX3], 6, (lkL [48, 58, 52, 33, 49, 59])) tXb3 (53026524049723 : Int64) (0 : Int64) (-4) (-4) (lkL [59, 49, 33, 51, 58, 48]) (lkL []) (by unfold okW; decide +kernel) (by unfold okW; decide +kernel) (by (try dsimp only); decide +kernel) (by (try dsimp only); decide +kernel)) (cwS 5 hts gL_texts_L_isFault rfl rfl rfl (by decide +kernel) ⟨Nat.le_of_ble_eq_true rfl, Nat.le_of_ble_eq_true rfl⟩) hG hZ (fun _ h9 => h9) hO hS rfl hl.1 rfl (lv_room (Nat.le_of_ble_eq_true rfl)) dL_texts_119 ⟨Nat.le_of_ble_eq_true rfl, Nat.le_of_ble_eq_true rfl⟩ (fun r9 o9 HZ locsZ hp hO hS hsz9 hfr9 => ?_)
  obtain ⟨rfl, rfl⟩ := hp
  have hO : HO E D fs (tX3, [tX0, tX1, tX2, tX3], 6, (lkL [48, 58, 51, 33, 49, 59])) HZ := HO_txt (by (try dsimp only); decide +kernel) (by (try dsimp only); decide +kernel) hO
  refine lv_if_ne (tgt := 127) hx hb dL_texts_122 (by decide) (fun _ => ?_) (fun c9 => absurd c9 (by decide))
  refine lv_aload_n hx hb dL_texts_127 rfl (lv_at hl 0 rfl) ?_
  refine lv_ldc2 (v := 3475143058628030512) hx hb hown (hts (.constantLong RL 128 3475143058628030512) (by decide +kernel)) dL_texts_128 ?_
  refine lv_ldc2 (v := 12603) hx hb hown (hts (.constantLong RL 130 12603) (by decide +kernel)) dL_texts_131 ?_
  refine lv_bipush (v := (-4)) hx hb dL_texts_134 (by decide) ?_
  refine lv_bipush (v := (-4)) hx hb dL_texts_136 (by decide) ?_
  refine o_callS (o := (tX3, [tX0, tX1, tX2, tX3], 6, (lkL [48, 58, 51, 33, 49, 59]))) (As := [.ref fs, .long (3475143058628030512 : Int64), .long (12603 : Int64), .int (-4), .int (-4)]) (rest := []) hF (c_L_isFault l E tm tl D fs (tX3, [tX0, tX1, tX2, tX3], 6, (lkL [48, 58, 51, 33, 49, 59])) tXb3 (3475143058628030512 : Int64) (12603 : Int64) (-4) (-4) (lkL [48, 48, 48, 33, 51, 48, 58, 48]) (lkL [59, 49]) (by unfold okW; decide +kernel) (by unfold okW; decide +kernel) (by (try dsimp only); decide +kernel) (by (try dsimp only); decide +kernel)) (cwS 5 hts gL_texts_L_isFault rfl rfl rfl (by decide +kernel) ⟨Nat.le_of_ble_eq_true rfl, Nat.le_of_ble_eq_true rfl⟩) hG hZ (fun _ h9 => h9) hO hS rfl hl.1 rfl (lv_room (Nat.le_of_ble_eq_true rfl)) dL_texts_138 ⟨Nat.le_of_ble_eq_true rfl, Nat.le_of_ble_eq_true rfl⟩ (fun r9 o9 HZ locsZ hp hO hS hsz9 hfr9 => ?_)
  obtain ⟨rfl, rfl⟩ := hp
  have hO : HO E D fs (tX3, [tX0, tX1, tX2, tX3], 10, (lkL [48, 58, 48, 51, 33, 48, 48, 48, 49, 59])) HZ := HO_txt (by (try dsimp only); decide +kernel) (by (try dsimp only); decide +kernel) hO
  refine lv_if_eq (tgt := 187) hx hb dL_texts_141 (by decide) (fun c9 => absurd c9 (by decide)) (fun _ => ?_)
  refine lv_aload_n hx hb dL_texts_144 rfl (lv_at hl 0 rfl) ?_
  refine lv_ldc2 (v := 53026473717819) hx hb hown (hts (.constantLong RL 132 53026473717819) (by decide +kernel)) dL_texts_145 ?_
  refine lv_lconst (v := 0) hx hb dL_texts_148 (by decide) ?_
  refine lv_iconst (v := nI 0) hx hb dL_texts_149 (by decide) ?_
  refine lv_iconst (v := nI 3) hx hb dL_texts_150 (by decide) ?_
  refine o_callS (o := (tX3, [tX0, tX1, tX2, tX3], 10, (lkL [48, 58, 48, 51, 33, 48, 48, 48, 49, 59]))) (As := [.ref fs, .long (53026473717819 : Int64), .long (0 : Int64), .int (nI 0), .int (nI 3)]) (rest := []) hF (c_L_isFault l E tm tl D fs (tX3, [tX0, tX1, tX2, tX3], 10, (lkL [48, 58, 48, 51, 33, 48, 48, 48, 49, 59])) tXb3 (53026473717819 : Int64) (0 : Int64) (nI 0) (nI 3) (lkL [59, 48, 33, 48, 58, 48]) (lkL []) (by unfold okW; decide +kernel) (by unfold okW; decide +kernel) (by (try dsimp only); decide +kernel) (by (try dsimp only); decide +kernel)) (cwS 5 hts gL_texts_L_isFault rfl rfl rfl (by decide +kernel) ⟨Nat.le_of_ble_eq_true rfl, Nat.le_of_ble_eq_true rfl⟩) hG hZ (fun _ h9 => h9) hO hS rfl hl.1 rfl (lv_room (Nat.le_of_ble_eq_true rfl)) dL_texts_151 ⟨Nat.le_of_ble_eq_true rfl, Nat.le_of_ble_eq_true rfl⟩ (fun r9 o9 HZ locsZ hp hO hS hsz9 hfr9 => ?_)
  obtain ⟨rfl, rfl⟩ := hp
  have hO : HO E D fs (tX3, [tX0, tX1, tX2, tX3], 6, (lkL [48, 58, 48, 33, 48, 59, 48, 48, 49, 59])) HZ := HO_txt (by (try dsimp only); decide +kernel) (by (try dsimp only); decide +kernel) hO
  refine lv_if_eq (tgt := 187) hx hb dL_texts_154 (by decide) (fun c9 => absurd c9 (by decide)) (fun _ => ?_)
  refine lv_aload_n hx hb dL_texts_157 rfl (lv_at hl 0 rfl) ?_
  refine lv_ldc2 (v := 3475142981587054641) hx hb hown (hts (.constantLong RL 134 3475142981587054641) (by decide +kernel)) dL_texts_158 ?_
  refine lv_ldc2 (v := 59) hx hb hown (hts (.constantLong RL 136 59) (by decide +kernel)) dL_texts_161 ?_
  refine lv_iconst (v := nI 0) hx hb dL_texts_164 (by decide) ?_
  refine lv_iconst (v := nI 3) hx hb dL_texts_165 (by decide) ?_
  refine o_callS (o := (tX3, [tX0, tX1, tX2, tX3], 6, (lkL [48, 58, 48, 33, 48, 59, 48, 48, 49, 59]))) (As := [.ref fs, .long (3475142981587054641 : Int64), .long (59 : Int64), .int (nI 0), .int (nI 3)]) (rest := []) hF (c_L_isFault l E tm tl D fs (tX3, [tX0, tX1, tX2, tX3], 6, (lkL [48, 58, 48, 33, 48, 59, 48, 48, 49, 59])) tXb3 (3475142981587054641 : Int64) (59 : Int64) (nI 0) (nI 3) (lkL [49, 48, 48, 49, 33, 48, 58, 48]) (lkL [59]) (by unfold okW; decide +kernel) (by unfold okW; decide +kernel) (by (try dsimp only); decide +kernel) (by (try dsimp only); decide +kernel)) (cwS 5 hts gL_texts_L_isFault rfl rfl rfl (by decide +kernel) ⟨Nat.le_of_ble_eq_true rfl, Nat.le_of_ble_eq_true rfl⟩) hG hZ (fun _ h9 => h9) hO hS rfl hl.1 rfl (lv_room (Nat.le_of_ble_eq_true rfl)) dL_texts_166 ⟨Nat.le_of_ble_eq_true rfl, Nat.le_of_ble_eq_true rfl⟩ (fun r9 o9 HZ locsZ hp hO hS hsz9 hfr9 => ?_)
  obtain ⟨rfl, rfl⟩ := hp
  have hO : HO E D fs (tX3, [tX0, tX1, tX2, tX3], 9, (lkL [48, 58, 48, 33, 49, 48, 48, 49, 59, 59])) HZ := HO_txt (by (try dsimp only); decide +kernel) (by (try dsimp only); decide +kernel) hO
  refine lv_if_eq (tgt := 187) hx hb dL_texts_169 (by decide) (fun c9 => absurd c9 (by decide)) (fun _ => ?_)
  refine lv_aload_n hx hb dL_texts_172 rfl (lv_at hl 0 rfl) ?_
  refine lv_ldc2 (v := 3475142981587054640) hx hb hown (hts (.constantLong RL 138 3475142981587054640) (by decide +kernel)) dL_texts_173 ?_
  refine lv_ldc2 (v := 12347) hx hb hown (hts (.constantLong RL 140 12347) (by decide +kernel)) dL_texts_176 ?_
  refine lv_iconst (v := nI 0) hx hb dL_texts_179 (by decide) ?_
  refine lv_iconst (v := nI 1) hx hb dL_texts_180 (by decide) ?_
  refine o_callS (o := (tX3, [tX0, tX1, tX2, tX3], 9, (lkL [48, 58, 48, 33, 49, 48, 48, 49, 59, 59]))) (As := [.ref fs, .long (3475142981587054640 : Int64), .long (12347 : Int64), .int (nI 0), .int (nI 1)]) (rest := []) hF (c_L_isFault l E tm tl D fs (tX3, [tX0, tX1, tX2, tX3], 9, (lkL [48, 58, 48, 33, 49, 48, 48, 49, 59, 59])) tXb3 (3475142981587054640 : Int64) (12347 : Int64) (nI 0) (nI 1) (lkL [48, 48, 48, 49, 33, 48, 58, 48]) (lkL [59, 48]) (by unfold okW; decide +kernel) (by unfold okW; decide +kernel) (by (try dsimp only); decide +kernel) (by (try dsimp only); decide +kernel)) (cwS 5 hts gL_texts_L_isFault rfl rfl rfl (by decide +kernel) ⟨Nat.le_of_ble_eq_true rfl, Nat.le_of_ble_eq_true rfl⟩) hG hZ (fun _ h9 => h9) hO hS rfl hl.1 rfl (lv_room (Nat.le_of_ble_eq_true rfl)) dL_texts_181 ⟨Nat.le_of_ble_eq_true rfl, Nat.le_of_ble_eq_true rfl⟩ (fun r9 o9 HZ locsZ hp hO hS hsz9 hfr9 => ?_)
  obtain ⟨rfl, rfl⟩ := hp
  have hO : HO E D fs (tX3, [tX0, tX1, tX2, tX3], 10, (lkL [48, 58, 48, 33, 49, 48, 48, 48, 48, 59])) HZ := HO_txt (by (try dsimp only); decide +kernel) (by (try dsimp only); decide +kernel) hO
  refine lv_if_ne (tgt := 189) hx hb dL_texts_184 (by decide) (fun _ => ?_) (fun c9 => absurd c9 (by decide))
  refine lv_aload_n hx hb dL_texts_189 rfl (lv_at hl 0 rfl) ?_
  refine lv_ldc2 (v := 3475142981586726971) hx hb hown (hts (.constantLong RL 142 3475142981586726971) (by decide +kernel)) dL_texts_190 ?_
  refine lv_lconst (v := 0) hx hb dL_texts_193 (by decide) ?_
  refine lv_iconst (v := nI 0) hx hb dL_texts_194 (by decide) ?_
  refine lv_iconst (v := nI 3) hx hb dL_texts_195 (by decide) ?_
  refine o_callS (o := (tX3, [tX0, tX1, tX2, tX3], 10, (lkL [48, 58, 48, 33, 49, 48, 48, 48, 48, 59]))) (As := [.ref fs, .long (3475142981586726971 : Int64), .long (0 : Int64), .int (nI 0), .int (nI 3)]) (rest := []) hF (c_L_isFault l E tm tl D fs (tX3, [tX0, tX1, tX2, tX3], 10, (lkL [48, 58, 48, 33, 49, 48, 48, 48, 48, 59])) tXb3 (3475142981586726971 : Int64) (0 : Int64) (nI 0) (nI 3) (lkL [59, 48, 43, 49, 33, 48, 58, 48]) (lkL []) (by unfold okW; decide +kernel) (by unfold okW; decide +kernel) (by (try dsimp only); decide +kernel) (by (try dsimp only); decide +kernel)) (cwS 5 hts gL_texts_L_isFault rfl rfl rfl (by decide +kernel) ⟨Nat.le_of_ble_eq_true rfl, Nat.le_of_ble_eq_true rfl⟩) hG hZ (fun _ h9 => h9) hO hS rfl hl.1 rfl (lv_room (Nat.le_of_ble_eq_true rfl)) dL_texts_196 ⟨Nat.le_of_ble_eq_true rfl, Nat.le_of_ble_eq_true rfl⟩ (fun r9 o9 HZ locsZ hp hO hS hsz9 hfr9 => ?_)
  obtain ⟨rfl, rfl⟩ := hp
  have hO : HO E D fs (tX3, [tX0, tX1, tX2, tX3], 8, (lkL [48, 58, 48, 33, 49, 43, 48, 59, 48, 59])) HZ := HO_txt (by (try dsimp only); decide +kernel) (by (try dsimp only); decide +kernel) hO
  refine lv_if_eq (tgt := 247) hx hb dL_texts_199 (by decide) (fun c9 => absurd c9 (by decide)) (fun _ => ?_)
  refine lv_aload_n hx hb dL_texts_202 rfl (lv_at hl 0 rfl) ?_
  refine lv_ldc2 (v := 3475142981586728240) hx hb hown (hts (.constantLong RL 144 3475142981586728240) (by decide +kernel)) dL_texts_203 ?_
  refine lv_ldc2 (v := 12603) hx hb hown (hts (.constantLong RL 130 12603) (by decide +kernel)) dL_texts_206 ?_
  refine lv_iconst (v := nI 0) hx hb dL_texts_209 (by decide) ?_
  refine lv_iconst (v := nI 3) hx hb dL_texts_210 (by decide) ?_
  refine o_callS (o := (tX3, [tX0, tX1, tX2, tX3], 8, (lkL [48, 58, 48, 33, 49, 43, 48, 59, 48, 59]))) (As := [.ref fs, .long (3475142981586728240 : Int64), .long (12603 : Int64), .int (nI 0), .int (nI 3)]) (rest := []) hF (c_L_isFault l E tm tl D fs (tX3, [tX0, tX1, tX2, tX3], 8, (lkL [48, 58, 48, 33, 49, 43, 48, 59, 48, 59])) tXb3 (3475142981586728240 : Int64) (12603 : Int64) (nI 0) (nI 3) (lkL [48, 53, 43, 49, 33, 48, 58, 48]) (lkL [59, 49]) (by unfold okW; decide +kernel) (by unfold okW; decide +kernel) (by (try dsimp only); decide +kernel) (by (try dsimp only); decide +kernel)) (cwS 5 hts gL_texts_L_isFault rfl rfl rfl (by decide +kernel) ⟨Nat.le_of_ble_eq_true rfl, Nat.le_of_ble_eq_true rfl⟩) hG hZ (fun _ h9 => h9) hO hS rfl hl.1 rfl (lv_room (Nat.le_of_ble_eq_true rfl)) dL_texts_211 ⟨Nat.le_of_ble_eq_true rfl, Nat.le_of_ble_eq_true rfl⟩ (fun r9 o9 HZ locsZ hp hO hS hsz9 hfr9 => ?_)
  obtain ⟨rfl, rfl⟩ := hp
  have hO : HO E D fs (tX3, [tX0, tX1, tX2, tX3], 10, (lkL [48, 58, 48, 33, 49, 43, 53, 48, 49, 59])) HZ := HO_txt (by (try dsimp only); decide +kernel) (by (try dsimp only); decide +kernel) hO
  refine lv_if_eq (tgt := 247) hx hb dL_texts_214 (by decide) (fun c9 => absurd c9 (by decide)) (fun _ => ?_)
  refine lv_aload_n hx hb dL_texts_217 rfl (lv_at hl 0 rfl) ?_
  refine lv_ldc2 (v := 3475142981586728240) hx hb hown (hts (.constantLong RL 144 3475142981586728240) (by decide +kernel)) dL_texts_218 ?_
  refine lv_ldc2 (v := 12347) hx hb hown (hts (.constantLong RL 140 12347) (by decide +kernel)) dL_texts_221 ?_
  refine lv_bipush (v := (-4)) hx hb dL_texts_224 (by decide) ?_
  refine lv_bipush (v := (-4)) hx hb dL_texts_226 (by decide) ?_
  refine o_callS (o := (tX3, [tX0, tX1, tX2, tX3], 10, (lkL [48, 58, 48, 33, 49, 43, 53, 48, 49, 59]))) (As := [.ref fs, .long (3475142981586728240 : Int64), .long (12347 : Int64), .int (-4), .int (-4)]) (rest := []) hF (c_L_isFault l E tm tl D fs (tX3, [tX0, tX1, tX2, tX3], 10, (lkL [48, 58, 48, 33, 49, 43, 53, 48, 49, 59])) tXb3 (3475142981586728240 : Int64) (12347 : Int64) (-4) (-4) (lkL [48, 53, 43, 49, 33, 48, 58, 48]) (lkL [59, 48]) (by unfold okW; decide +kernel) (by unfold okW; decide +kernel) (by (try dsimp only); decide +kernel) (by (try dsimp only); decide +kernel)) (cwS 5 hts gL_texts_L_isFault rfl rfl rfl (by decide +kernel) ⟨Nat.le_of_ble_eq_true rfl, Nat.le_of_ble_eq_true rfl⟩) hG hZ (fun _ h9 => h9) hO hS rfl hl.1 rfl (lv_room (Nat.le_of_ble_eq_true rfl)) dL_texts_228 ⟨Nat.le_of_ble_eq_true rfl, Nat.le_of_ble_eq_true rfl⟩ (fun r9 o9 HZ locsZ hp hO hS hsz9 hfr9 => ?_)
  obtain ⟨rfl, rfl⟩ := hp
  have hO : HO E D fs (tX3, [tX0, tX1, tX2, tX3], 10, (lkL [48, 58, 48, 33, 49, 43, 53, 48, 48, 59])) HZ := HO_txt (by (try dsimp only); decide +kernel) (by (try dsimp only); decide +kernel) hO
  refine lv_if_eq (tgt := 247) hx hb dL_texts_231 (by decide) (fun c9 => absurd c9 (by decide)) (fun _ => ?_)
  refine lv_aload_n hx hb dL_texts_234 rfl (lv_at hl 0 rfl) ?_
  refine lv_ldc2 (v := 13574777271823163) hx hb hown (hts (.constantLong RL 146 13574777271823163) (by decide +kernel)) dL_texts_235 ?_
  refine lv_lconst (v := 0) hx hb dL_texts_238 (by decide) ?_
  refine lv_iconst (v := nI 0) hx hb dL_texts_239 (by decide) ?_
  refine lv_iconst (v := nI 1) hx hb dL_texts_240 (by decide) ?_
  refine o_callS (o := (tX3, [tX0, tX1, tX2, tX3], 10, (lkL [48, 58, 48, 33, 49, 43, 53, 48, 48, 59]))) (As := [.ref fs, .long (13574777271823163 : Int64), .long (0 : Int64), .int (nI 0), .int (nI 1)]) (rest := []) hF (c_L_isFault l E tm tl D fs (tX3, [tX0, tX1, tX2, tX3], 10, (lkL [48, 58, 48, 33, 49, 43, 53, 48, 48, 59])) tXb3 (13574777271823163 : Int64) (0 : Int64) (nI 0) (nI 1) (lkL [59, 43, 49, 33, 48, 58, 48]) (lkL []) (by unfold okW; decide +kernel) (by unfold okW; decide +kernel) (by (try dsimp only); decide +kernel) (by (try dsimp only); decide +kernel)) (cwS 5 hts gL_texts_L_isFault rfl rfl rfl (by decide +kernel) ⟨Nat.le_of_ble_eq_true rfl, Nat.le_of_ble_eq_true rfl⟩) hG hZ (fun _ h9 => h9) hO hS rfl hl.1 rfl (lv_room (Nat.le_of_ble_eq_true rfl)) dL_texts_241 ⟨Nat.le_of_ble_eq_true rfl, Nat.le_of_ble_eq_true rfl⟩ (fun r9 o9 HZ locsZ hp hO hS hsz9 hfr9 => ?_)
  obtain ⟨rfl, rfl⟩ := hp
  have hO : HO E D fs (tX3, [tX0, tX1, tX2, tX3], 7, (lkL [48, 58, 48, 33, 49, 43, 59, 48, 48, 59])) HZ := HO_txt (by (try dsimp only); decide +kernel) (by (try dsimp only); decide +kernel) hO
  refine lv_if_ne (tgt := 249) hx hb dL_texts_244 (by decide) (fun _ => ?_) (fun c9 => absurd c9 (by decide))
  refine lv_aload_n hx hb dL_texts_249 rfl (lv_at hl 0 rfl) ?_
  refine lv_ldc2 (v := 3475142981586727216) hx hb hown (hts (.constantLong RL 148 3475142981586727216) (by decide +kernel)) dL_texts_250 ?_
  refine lv_ldc2 (v := 3158075) hx hb hown (hts (.constantLong RL 150 3158075) (by decide +kernel)) dL_texts_253 ?_
  refine lv_iconst (v := nI 0) hx hb dL_texts_256 (by decide) ?_
  refine lv_iconst (v := nI 1) hx hb dL_texts_257 (by decide) ?_
  refine o_callS (o := (tX3, [tX0, tX1, tX2, tX3], 7, (lkL [48, 58, 48, 33, 49, 43, 59, 48, 48, 59]))) (As := [.ref fs, .long (3475142981586727216 : Int64), .long (3158075 : Int64), .int (nI 0), .int (nI 1)]) (rest := []) hF (c_L_isFault l E tm tl D fs (tX3, [tX0, tX1, tX2, tX3], 7, (lkL [48, 58, 48, 33, 49, 43, 59, 48, 48, 59])) tXb3 (3475142981586727216 : Int64) (3158075 : Int64) (nI 0) (nI 1) (lkL [48, 49, 43, 49, 33, 48, 58, 48]) (lkL [59, 48, 48]) (by unfold okW; decide +kernel) (by unfold okW; decide +kernel) (by (try dsimp only); decide +kernel) (by (try dsimp only); decide +kernel)) (cwS 5 hts gL_texts_L_isFault rfl rfl rfl (by decide +kernel) ⟨Nat.le_of_ble_eq_true rfl, Nat.le_of_ble_eq_true rfl⟩) hG hZ (fun _ h9 => h9) hO hS rfl hl.1 rfl (lv_room (Nat.le_of_ble_eq_true rfl)) dL_texts_258 ⟨Nat.le_of_ble_eq_true rfl, Nat.le_of_ble_eq_true rfl⟩ (fun r9 o9 HZ locsZ hp hO hS hsz9 hfr9 => ?_)
  obtain ⟨rfl, rfl⟩ := hp
  have hO : HO E D fs (tX3, [tX0, tX1, tX2, tX3], 11, (lkL [48, 58, 48, 33, 49, 43, 49, 48, 48, 48, 59])) HZ := HO_txt (by (try dsimp only); decide +kernel) (by (try dsimp only); decide +kernel) hO
  refine lv_if_eq (tgt := 307) hx hb dL_texts_261 (by decide) (fun c9 => absurd c9 (by decide)) (fun _ => ?_)
  refine lv_aload_n hx hb dL_texts_264 rfl (lv_at hl 0 rfl) ?_
  refine lv_ldc2 (v := 207134662961) hx hb hown (hts (.constantLong RL 152 207134662961) (by decide +kernel)) dL_texts_265 ?_
  refine lv_lconst (v := 0) hx hb dL_texts_268 (by decide) ?_
  refine lv_iconst (v := nI 0) hx hb dL_texts_269 (by decide) ?_
  refine lv_iconst (v := nI 1) hx hb dL_texts_270 (by decide) ?_
  refine o_callS (o := (tX3, [tX0, tX1, tX2, tX3], 11, (lkL [48, 58, 48, 33, 49, 43, 49, 48, 48, 48, 59]))) (As := [.ref fs, .long (207134662961 : Int64), .long (0 : Int64), .int (nI 0), .int (nI 1)]) (rest := []) hF (c_L_isFault l E tm tl D fs (tX3, [tX0, tX1, tX2, tX3], 11, (lkL [48, 58, 48, 33, 49, 43, 49, 48, 48, 48, 59])) tXb3 (207134662961 : Int64) (0 : Int64) (nI 0) (nI 1) (lkL [49, 33, 48, 58, 48]) (lkL []) (by unfold okW; decide +kernel) (by unfold okW; decide +kernel) (by (try dsimp only); decide +kernel) (by (try dsimp only); decide +kernel)) (cwS 5 hts gL_texts_L_isFault rfl rfl rfl (by decide +kernel) ⟨Nat.le_of_ble_eq_true rfl, Nat.le_of_ble_eq_true rfl⟩) hG hZ (fun _ h9 => h9) hO hS rfl hl.1 rfl (lv_room (Nat.le_of_ble_eq_true rfl)) dL_texts_271 ⟨Nat.le_of_ble_eq_true rfl, Nat.le_of_ble_eq_true rfl⟩ (fun r9 o9 HZ locsZ hp hO hS hsz9 hfr9 => ?_)
  obtain ⟨rfl, rfl⟩ := hp
  have hO : HO E D fs (tX3, [tX0, tX1, tX2, tX3], 5, (lkL [48, 58, 48, 33, 49, 43, 49, 48, 48, 48, 59])) HZ := HO_txt (by (try dsimp only); decide +kernel) (by (try dsimp only); decide +kernel) hO
  refine lv_if_eq (tgt := 307) hx hb dL_texts_274 (by decide) (fun c9 => absurd c9 (by decide)) (fun _ => ?_)
  refine lv_aload_n hx hb dL_texts_277 rfl (lv_at hl 0 rfl) ?_
  refine lv_ldc2 (v := 3475142981587775802) hx hb hown (hts (.constantLong RL 154 3475142981587775802) (by decide +kernel)) dL_texts_278 ?_
  refine lv_ldc2 (v := 245771612219) hx hb hown (hts (.constantLong RL 156 245771612219) (by decide +kernel)) dL_texts_281 ?_
  refine lv_bipush (v := nI 6) hx hb dL_texts_284 (by decide) ?_
  refine lv_iconst (v := nI 2) hx hb dL_texts_286 (by decide) ?_
  refine o_callS (o := (tX3, [tX0, tX1, tX2, tX3], 5, (lkL [48, 58, 48, 33, 49, 43, 49, 48, 48, 48, 59]))) (As := [.ref fs, .long (3475142981587775802 : Int64), .long (245771612219 : Int64), .int (nI 6), .int (nI 2)]) (rest := []) hF (c_L_isFault l E tm tl D fs (tX3, [tX0, tX1, tX2, tX3], 5, (lkL [48, 58, 48, 33, 49, 43, 49, 48, 48, 48, 59])) tXb3 (3475142981587775802 : Int64) (245771612219 : Int64) (nI 6) (nI 2) (lkL [58, 49, 59, 49, 33, 48, 58, 48]) (lkL [59, 48, 33, 57, 57]) (by unfold okW; decide +kernel) (by unfold okW; decide +kernel) (by (try dsimp only); decide +kernel) (by (try dsimp only); decide +kernel)) (cwS 5 hts gL_texts_L_isFault rfl rfl rfl (by decide +kernel) ⟨Nat.le_of_ble_eq_true rfl, Nat.le_of_ble_eq_true rfl⟩) hG hZ (fun _ h9 => h9) hO hS rfl hl.1 rfl (lv_room (Nat.le_of_ble_eq_true rfl)) dL_texts_287 ⟨Nat.le_of_ble_eq_true rfl, Nat.le_of_ble_eq_true rfl⟩ (fun r9 o9 HZ locsZ hp hO hS hsz9 hfr9 => ?_)
  obtain ⟨rfl, rfl⟩ := hp
  have hO : HO E D fs (tX3, [tX0, tX1, tX2, tX3], 13, (lkL [48, 58, 48, 33, 49, 59, 49, 58, 57, 57, 33, 48, 59])) HZ := HO_txt (by (try dsimp only); decide +kernel) (by (try dsimp only); decide +kernel) hO
  refine lv_if_eq (tgt := 307) hx hb dL_texts_290 (by decide) (fun c9 => absurd c9 (by decide)) (fun _ => ?_)
  refine lv_aload_n hx hb dL_texts_293 rfl (lv_at hl 0 rfl) ?_
  refine lv_ldc2 (v := 13574777271827320) hx hb hown (hts (.constantLong RL 158 13574777271827320) (by decide +kernel)) dL_texts_294 ?_
  refine lv_lconst (v := 0) hx hb dL_texts_297 (by decide) ?_
  refine lv_bipush (v := nI 6) hx hb dL_texts_298 (by decide) ?_
  refine lv_iconst (v := nI 1) hx hb dL_texts_300 (by decide) ?_
  refine o_callS (o := (tX3, [tX0, tX1, tX2, tX3], 13, (lkL [48, 58, 48, 33, 49, 59, 49, 58, 57, 57, 33, 48, 59]))) (As := [.ref fs, .long (13574777271827320 : Int64), .long (0 : Int64), .int (nI 6), .int (nI 1)]) (rest := []) hF (c_L_isFault l E tm tl D fs (tX3, [tX0, tX1, tX2, tX3], 13, (lkL [48, 58, 48, 33, 49, 59, 49, 58, 57, 57, 33, 48, 59])) tXb3 (13574777271827320 : Int64) (0 : Int64) (nI 6) (nI 1) (lkL [120, 59, 49, 33, 48, 58, 48]) (lkL []) (by unfold okW; decide +kernel) (by unfold okW; decide +kernel) (by (try dsimp only); decide +kernel) (by (try dsimp only); decide +kernel)) (cwS 5 hts gL_texts_L_isFault rfl rfl rfl (by decide +kernel) ⟨Nat.le_of_ble_eq_true rfl, Nat.le_of_ble_eq_true rfl⟩) hG hZ (fun _ h9 => h9) hO hS rfl hl.1 rfl (lv_room (Nat.le_of_ble_eq_true rfl)) dL_texts_301 ⟨Nat.le_of_ble_eq_true rfl, Nat.le_of_ble_eq_true rfl⟩ (fun r9 o9 HZ locsZ hp hO hS hsz9 hfr9 => ?_)
  obtain ⟨rfl, rfl⟩ := hp
  have hO : HO E D fs (tX3, [tX0, tX1, tX2, tX3], 7, (lkL [48, 58, 48, 33, 49, 59, 120, 58, 57, 57, 33, 48, 59])) HZ := HO_txt (by (try dsimp only); decide +kernel) (by (try dsimp only); decide +kernel) hO
  refine lv_if_ne (tgt := 309) hx hb dL_texts_304 (by decide) (fun _ => ?_) (fun c9 => absurd c9 (by decide))
  refine lv_aload_n hx hb dL_texts_309 rfl (lv_at hl 0 rfl) ?_
  refine lv_lconst (v := 0) hx hb dL_texts_310 (by decide) ?_
  refine lv_lconst (v := 0) hx hb dL_texts_311 (by decide) ?_
  refine lv_bipush (v := (-4)) hx hb dL_texts_312 (by decide) ?_
  refine lv_bipush (v := (-4)) hx hb dL_texts_314 (by decide) ?_
  refine o_callS (o := (tX3, [tX0, tX1, tX2, tX3], 7, (lkL [48, 58, 48, 33, 49, 59, 120, 58, 57, 57, 33, 48, 59]))) (As := [.ref fs, .long (0 : Int64), .long (0 : Int64), .int (-4), .int (-4)]) (rest := []) hF (c_L_isFault l E tm tl D fs (tX3, [tX0, tX1, tX2, tX3], 7, (lkL [48, 58, 48, 33, 49, 59, 120, 58, 57, 57, 33, 48, 59])) tXb3 (0 : Int64) (0 : Int64) (-4) (-4) (lkL []) (lkL []) (by unfold okW; decide +kernel) (by unfold okW; decide +kernel) (by (try dsimp only); decide +kernel) (by (try dsimp only); decide +kernel)) (cwS 5 hts gL_texts_L_isFault rfl rfl rfl (by decide +kernel) ⟨Nat.le_of_ble_eq_true rfl, Nat.le_of_ble_eq_true rfl⟩) hG hZ (fun _ h9 => h9) hO hS rfl hl.1 rfl (lv_room (Nat.le_of_ble_eq_true rfl)) dL_texts_316 ⟨Nat.le_of_ble_eq_true rfl, Nat.le_of_ble_eq_true rfl⟩ (fun r9 o9 HZ locsZ hp hO hS hsz9 hfr9 => ?_)
  obtain ⟨rfl, rfl⟩ := hp
  have hO : HO E D fs (tX3, [tX0, tX1, tX2, tX3], 0, (lkL [48, 58, 48, 33, 49, 59, 120, 58, 57, 57, 33, 48, 59])) HZ := HO_txt (by (try dsimp only); decide +kernel) (by (try dsimp only); decide +kernel) hO
  refine lv_if_eq (tgt := 364) hx hb dL_texts_319 (by decide) (fun c9 => absurd c9 (by decide)) (fun _ => ?_)
  refine lv_aload_n hx hb dL_texts_322 rfl (lv_at hl 0 rfl) ?_
  refine lv_ldc2 (v := 13563825355829563) hx hb hown (hts (.constantLong RL 160 13563825355829563) (by decide +kernel)) dL_texts_323 ?_
  refine lv_lconst (v := 0) hx hb dL_texts_326 (by decide) ?_
  refine lv_iconst (v := nI 0) hx hb dL_texts_327 (by decide) ?_
  refine lv_iconst (v := nI 1) hx hb dL_texts_328 (by decide) ?_
  refine o_callS (o := (tX3, [tX0, tX1, tX2, tX3], 0, (lkL [48, 58, 48, 33, 49, 59, 120, 58, 57, 57, 33, 48, 59]))) (As := [.ref fs, .long (13563825355829563 : Int64), .long (0 : Int64), .int (nI 0), .int (nI 1)]) (rest := []) hF (c_L_isFault l E tm tl D fs (tX3, [tX0, tX1, tX2, tX3], 0, (lkL [48, 58, 48, 33, 49, 59, 120, 58, 57, 57, 33, 48, 59])) tXb3 (13563825355829563 : Int64) (0 : Int64) (nI 0) (nI 1) (lkL [59, 49, 33, 48, 58, 48, 48]) (lkL []) (by unfold okW; decide +kernel) (by unfold okW; decide +kernel) (by (try dsimp only); decide +kernel) (by (try dsimp only); decide +kernel)) (cwS 5 hts gL_texts_L_isFault rfl rfl rfl (by decide +kernel) ⟨Nat.le_of_ble_eq_true rfl, Nat.le_of_ble_eq_true rfl⟩) hG hZ (fun _ h9 => h9) hO hS rfl hl.1 rfl (lv_room (Nat.le_of_ble_eq_true rfl)) dL_texts_329 ⟨Nat.le_of_ble_eq_true rfl, Nat.le_of_ble_eq_true rfl⟩ (fun r9 o9 HZ locsZ hp hO hS hsz9 hfr9 => ?_)
  obtain ⟨rfl, rfl⟩ := hp
  have hO : HO E D fs (tX3, [tX0, tX1, tX2, tX3], 7, (lkL [48, 48, 58, 48, 33, 49, 59, 58, 57, 57, 33, 48, 59])) HZ := HO_txt (by (try dsimp only); decide +kernel) (by (try dsimp only); decide +kernel) hO
  refine lv_if_eq (tgt := 364) hx hb dL_texts_332 (by decide) (fun c9 => absurd c9 (by decide)) (fun _ => ?_)
  refine lv_aload_n hx hb dL_texts_335 rfl (lv_at hl 0 rfl) ?_
  refine lv_ldc2 (v := 3475143046044135739) hx hb hown (hts (.constantLong RL 162 3475143046044135739) (by decide +kernel)) dL_texts_336 ?_
  refine lv_lconst (v := 0) hx hb dL_texts_339 (by decide) ?_
  refine lv_iconst (v := nI 0) hx hb dL_texts_340 (by decide) ?_
  refine lv_iconst (v := nI 1) hx hb dL_texts_341 (by decide) ?_
  refine o_callS (o := (tX3, [tX0, tX1, tX2, tX3], 7, (lkL [48, 48, 58, 48, 33, 49, 59, 58, 57, 57, 33, 48, 59]))) (As := [.ref fs, .long (3475143046044135739 : Int64), .long (0 : Int64), .int (nI 0), .int (nI 1)]) (rest := []) hF (c_L_isFault l E tm tl D fs (tX3, [tX0, tX1, tX2, tX3], 7, (lkL [48, 48, 58, 48, 33, 49, 59, 58, 57, 57, 33, 48, 59])) tXb3 (3475143046044135739 : Int64) (0 : Int64) (nI 0) (nI 1) (lkL [59, 49, 33, 51, 48, 48, 58, 48]) (lkL []) (by unfold okW; decide +kernel) (by unfold okW; decide +kernel) (by (try dsimp only); decide +kernel) (by (try dsimp only); decide +kernel)) (cwS 5 hts gL_texts_L_isFault rfl rfl rfl (by decide +kernel) ⟨Nat.le_of_ble_eq_true rfl, Nat.le_of_ble_eq_true rfl⟩) hG hZ (fun _ h9 => h9) hO hS rfl hl.1 rfl (lv_room (Nat.le_of_ble_eq_true rfl)) dL_texts_342 ⟨Nat.le_of_ble_eq_true rfl, Nat.le_of_ble_eq_true rfl⟩ (fun r9 o9 HZ locsZ hp hO hS hsz9 hfr9 => ?_)
  obtain ⟨rfl, rfl⟩ := hp
  have hO : HO E D fs (tX3, [tX0, tX1, tX2, tX3], 8, (lkL [48, 58, 48, 48, 51, 33, 49, 59, 57, 57, 33, 48, 59])) HZ := HO_txt (by (try dsimp only); decide +kernel) (by (try dsimp only); decide +kernel) hO
  refine lv_if_eq (tgt := 364) hx hb dL_texts_345 (by decide) (fun c9 => absurd c9 (by decide)) (fun _ => ?_)
  refine lv_aload_n hx hb dL_texts_348 rfl (lv_at hl 0 rfl) ?_
  refine lv_ldc2 (v := 3691316863346358587) hx hb hown (hts (.constantLong RL 164 3691316863346358587) (by decide +kernel)) dL_texts_349 ?_
  refine lv_ldc2 (v := 215724728632) hx hb hown (hts (.constantLong RL 166 215724728632) (by decide +kernel)) dL_texts_352 ?_
  refine lv_bipush (v := nI 8) hx hb dL_texts_355 (by decide) ?_
  refine lv_iconst (v := nI 1) hx hb dL_texts_357 (by decide) ?_
  refine o_callS (o := (tX3, [tX0, tX1, tX2, tX3], 8, (lkL [48, 58, 48, 48, 51, 33, 49, 59, 57, 57, 33, 48, 59]))) (As := [.ref fs, .long (3691316863346358587 : Int64), .long (215724728632 : Int64), .int (nI 8), .int (nI 1)]) (rest := []) hF (c_L_isFault l E tm tl D fs (tX3, [tX0, tX1, tX2, tX3], 8, (lkL [48, 58, 48, 48, 51, 33, 49, 59, 57, 57, 33, 48, 59])) tXb3 (3691316863346358587 : Int64) (215724728632 : Int64) (nI 8) (nI 1) (lkL [59, 57, 43, 57, 33, 49, 58, 51]) (lkL [56, 33, 50, 58, 50]) (by unfold okW; decide +kernel) (by unfold okW; decide +kernel) (by (try dsimp only); decide +kernel) (by (try dsimp only); decide +kernel)) (cwS 5 hts gL_texts_L_isFault rfl rfl rfl (by decide +kernel) ⟨Nat.le_of_ble_eq_true rfl, Nat.le_of_ble_eq_true rfl⟩) hG hZ (fun _ h9 => h9) hO hS rfl hl.1 rfl (lv_room (Nat.le_of_ble_eq_true rfl)) dL_texts_358 ⟨Nat.le_of_ble_eq_true rfl, Nat.le_of_ble_eq_true rfl⟩ (fun r9 o9 HZ locsZ hp hO hS hsz9 hfr9 => ?_)
  obtain ⟨rfl, rfl⟩ := hp
  have hO : HO E D fs (tX3, [tX0, tX1, tX2, tX3], 13, (lkL [51, 58, 49, 33, 57, 43, 57, 59, 50, 58, 50, 33, 56])) HZ := HO_txt (by (try dsimp only); decide +kernel) (by (try dsimp only); decide +kernel) hO
  refine lv_if_ne (tgt := 366) hx hb dL_texts_361 (by decide) (fun _ => ?_) (fun c9 => absurd c9 (by decide))
  refine lv_aload_n hx hb dL_texts_366 rfl (lv_at hl 0 rfl) ?_
  refine lv_ldc2 (v := 9060225728459067) hx hb hown (hts (.constantLong RL 168 9060225728459067) (by decide +kernel)) dL_texts_367 ?_
  refine lv_lconst (v := 0) hx hb dL_texts_370 (by decide) ?_
  refine lv_iconst (v := nI 0) hx hb dL_texts_371 (by decide) ?_
  refine lv_iconst (v := nI 1) hx hb dL_texts_372 (by decide) ?_
  refine o_callS (o := (tX3, [tX0, tX1, tX2, tX3], 13, (lkL [51, 58, 49, 33, 57, 43, 57, 59, 50, 58, 50, 33, 56]))) (As := [.ref fs, .long (9060225728459067 : Int64), .long (0 : Int64), .int (nI 0), .int (nI 1)]) (rest := []) hF (c_L_isFault l E tm tl D fs (tX3, [tX0, tX1, tX2, tX3], 13, (lkL [51, 58, 49, 33, 57, 43, 57, 59, 50, 58, 50, 33, 56])) tXb3 (9060225728459067 : Int64) (0 : Int64) (nI 0) (nI 1) (lkL [59, 49, 33, 48, 58, 48, 32]) (lkL []) (by unfold okW; decide +kernel) (by unfold okW; decide +kernel) (by (try dsimp only); decide +kernel) (by (try dsimp only); decide +kernel)) (cwS 5 hts gL_texts_L_isFault rfl rfl rfl (by decide +kernel) ⟨Nat.le_of_ble_eq_true rfl, Nat.le_of_ble_eq_true rfl⟩) hG hZ (fun _ h9 => h9) hO hS rfl hl.1 rfl (lv_room (Nat.le_of_ble_eq_true rfl)) dL_texts_373 ⟨Nat.le_of_ble_eq_true rfl, Nat.le_of_ble_eq_true rfl⟩ (fun r9 o9 HZ locsZ hp hO hS hsz9 hfr9 => ?_)
  obtain ⟨rfl, rfl⟩ := hp
  have hO : HO E D fs (tX3, [tX0, tX1, tX2, tX3], 7, (lkL [32, 48, 58, 48, 33, 49, 59, 59, 50, 58, 50, 33, 56])) HZ := HO_txt (by (try dsimp only); decide +kernel) (by (try dsimp only); decide +kernel) hO
  refine lv_if_eq (tgt := 419) hx hb dL_texts_376 (by decide) (fun c9 => absurd c9 (by decide)) (fun _ => ?_)
  refine lv_aload_n hx hb dL_texts_379 rfl (lv_at hl 0 rfl) ?_
  refine lv_ldc2 (v := 53026475422011) hx hb hown (hts (.constantLong RL 170 53026475422011) (by decide +kernel)) dL_texts_380 ?_
  refine lv_lconst (v := 0) hx hb dL_texts_383 (by decide) ?_
  refine lv_iconst (v := nI 0) hx hb dL_texts_384 (by decide) ?_
  refine lv_iconst (v := nI 1) hx hb dL_texts_385 (by decide) ?_
  refine o_callS (o := (tX3, [tX0, tX1, tX2, tX3], 7, (lkL [32, 48, 58, 48, 33, 49, 59, 59, 50, 58, 50, 33, 56]))) (As := [.ref fs, .long (53026475422011 : Int64), .long (0 : Int64), .int (nI 0), .int (nI 1)]) (rest := []) hF (c_L_isFault l E tm tl D fs (tX3, [tX0, tX1, tX2, tX3], 7, (lkL [32, 48, 58, 48, 33, 49, 59, 59, 50, 58, 50, 33, 56])) tXb3 (53026475422011 : Int64) (0 : Int64) (nI 0) (nI 1) (lkL [59, 49, 59, 48, 58, 48]) (lkL []) (by unfold okW; decide +kernel) (by unfold okW; decide +kernel) (by (try dsimp only); decide +kernel) (by (try dsimp only); decide +kernel)) (cwS 5 hts gL_texts_L_isFault rfl rfl rfl (by decide +kernel) ⟨Nat.le_of_ble_eq_true rfl, Nat.le_of_ble_eq_true rfl⟩) hG hZ (fun _ h9 => h9) hO hS rfl hl.1 rfl (lv_room (Nat.le_of_ble_eq_true rfl)) dL_texts_386 ⟨Nat.le_of_ble_eq_true rfl, Nat.le_of_ble_eq_true rfl⟩ (fun r9 o9 HZ locsZ hp hO hS hsz9 hfr9 => ?_)
  obtain ⟨rfl, rfl⟩ := hp
  have hO : HO E D fs (tX3, [tX0, tX1, tX2, tX3], 6, (lkL [48, 58, 48, 59, 49, 59, 59, 59, 50, 58, 50, 33, 56])) HZ := HO_txt (by (try dsimp only); decide +kernel) (by (try dsimp only); decide +kernel) hO
  refine lv_if_eq (tgt := 419) hx hb dL_texts_389 (by decide) (fun c9 => absurd c9 (by decide)) (fun _ => ?_)
  refine lv_aload_n hx hb dL_texts_392 rfl (lv_at hl 0 rfl) ?_
  refine lv_ldc2 (v := 13574777271827259) hx hb hown (hts (.constantLong RL 172 13574777271827259) (by decide +kernel)) dL_texts_393 ?_
  refine lv_lconst (v := 0) hx hb dL_texts_396 (by decide) ?_
  refine lv_bipush (v := nI 6) hx hb dL_texts_397 (by decide) ?_
  refine lv_iconst (v := nI 1) hx hb dL_texts_399 (by decide) ?_
  refine o_callS (o := (tX3, [tX0, tX1, tX2, tX3], 6, (lkL [48, 58, 48, 59, 49, 59, 59, 59, 50, 58, 50, 33, 56]))) (As := [.ref fs, .long (13574777271827259 : Int64), .long (0 : Int64), .int (nI 6), .int (nI 1)]) (rest := []) hF (c_L_isFault l E tm tl D fs (tX3, [tX0, tX1, tX2, tX3], 6, (lkL [48, 58, 48, 59, 49, 59, 59, 59, 50, 58, 50, 33, 56])) tXb3 (13574777271827259 : Int64) (0 : Int64) (nI 6) (nI 1) (lkL [59, 59, 49, 33, 48, 58, 48]) (lkL []) (by unfold okW; decide +kernel) (by unfold okW; decide +kernel) (by (try dsimp only); decide +kernel) (by (try dsimp only); decide +kernel)) (cwS 5 hts gL_texts_L_isFault rfl rfl rfl (by decide +kernel) ⟨Nat.le_of_ble_eq_true rfl, Nat.le_of_ble_eq_true rfl⟩) hG hZ (fun _ h9 => h9) hO hS rfl hl.1 rfl (lv_room (Nat.le_of_ble_eq_true rfl)) dL_texts_400 ⟨Nat.le_of_ble_eq_true rfl, Nat.le_of_ble_eq_true rfl⟩ (fun r9 o9 HZ locsZ hp hO hS hsz9 hfr9 => ?_)
  obtain ⟨rfl, rfl⟩ := hp
  have hO : HO E D fs (tX3, [tX0, tX1, tX2, tX3], 7, (lkL [48, 58, 48, 33, 49, 59, 59, 59, 50, 58, 50, 33, 56])) HZ := HO_txt (by (try dsimp only); decide +kernel) (by (try dsimp only); decide +kernel) hO
  refine lv_if_eq (tgt := 419) hx hb dL_texts_403 (by decide) (fun c9 => absurd c9 (by decide)) (fun _ => ?_)
  refine lv_aload_n hx hb dL_texts_406 rfl (lv_at hl 0 rfl) ?_
  refine lv_ldc2 (v := 207133684027) hx hb hown (hts (.constantLong RL 174 207133684027) (by decide +kernel)) dL_texts_407 ?_
  refine lv_lconst (v := 0) hx hb dL_texts_410 (by decide) ?_
  refine lv_iconst (v := nI 0) hx hb dL_texts_411 (by decide) ?_
  refine lv_iconst (v := nI 1) hx hb dL_texts_412 (by decide) ?_
  refine o_callS (o := (tX3, [tX0, tX1, tX2, tX3], 7, (lkL [48, 58, 48, 33, 49, 59, 59, 59, 50, 58, 50, 33, 56]))) (As := [.ref fs, .long (207133684027 : Int64), .long (0 : Int64), .int (nI 0), .int (nI 1)]) (rest := []) hF (c_L_isFault l E tm tl D fs (tX3, [tX0, tX1, tX2, tX3], 7, (lkL [48, 58, 48, 33, 49, 59, 59, 59, 50, 58, 50, 33, 56])) tXb3 (207133684027 : Int64) (0 : Int64) (nI 0) (nI 1) (lkL [59, 49, 33, 58, 48]) (lkL []) (by unfold okW; decide +kernel) (by unfold okW; decide +kernel) (by (try dsimp only); decide +kernel) (by (try dsimp only); decide +kernel)) (cwS 5 hts gL_texts_L_isFault rfl rfl rfl (by decide +kernel) ⟨Nat.le_of_ble_eq_true rfl, Nat.le_of_ble_eq_true rfl⟩) hG hZ (fun _ h9 => h9) hO hS rfl hl.1 rfl (lv_room (Nat.le_of_ble_eq_true rfl)) dL_texts_413 ⟨Nat.le_of_ble_eq_true rfl, Nat.le_of_ble_eq_true rfl⟩ (fun r9 o9 HZ locsZ hp hO hS hsz9 hfr9 => ?_)
  obtain ⟨rfl, rfl⟩ := hp
  have hO : HO E D fs (tX3, [tX0, tX1, tX2, tX3], 5, (lkL [48, 58, 33, 49, 59, 59, 59, 59, 50, 58, 50, 33, 56])) HZ := HO_txt (by (try dsimp only); decide +kernel) (by (try dsimp only); decide +kernel) hO
  refine lv_if_ne (tgt := 421) hx hb dL_texts_416 (by decide) (fun _ => ?_) (fun c9 => absurd c9 (by decide))
  refine lv_aload_n hx hb dL_texts_421 rfl (lv_at hl 0 rfl) ?_
  refine o_call (o := (tX3, [tX0, tX1, tX2, tX3], 5, (lkL [48, 58, 33, 49, 59, 59, 59, 59, 50, 58, 50, 33, 56]))) (As := []) (rest := []) hF (U_play_p l E tm tl D fs (tX3, [tX0, tX1, tX2, tX3], 5, (lkL [48, 58, 33, 49, 59, 59, 59, 59, 50, 58, 50, 33, 56])) (by exact tXb3) (by (try dsimp only); decide +kernel)) (cwV 0 hts gL_texts_X6_play rfl rfl rfl (by decide +kernel) ⟨Nat.le_of_ble_eq_true rfl, Nat.le_of_ble_eq_true rfl⟩) hG hZ (fun _ h9 => h9) hO hS rfl hl.1 rfl (lv_room (Nat.le_of_ble_eq_true rfl)) dL_texts_422 ⟨Nat.le_of_ble_eq_true rfl, Nat.le_of_ble_eq_true rfl⟩ (fun r9 o9 HZ locsZ hp hO hS hsz9 hfr9 => ?_)
  obtain ⟨rfl, rfl⟩ := hp
  refine lv_bipush (v := (-2)) hx hb dL_texts_425 (by decide) ?_
  refine lv_icmp_ne (tgt := 566) hx hb dL_texts_427 (by decide) (fun c9 => absurd c9 (by decide)) (fun _ => ?_)
  refine lv_aload_n hx hb dL_texts_430 rfl (lv_at hl 0 rfl) ?_
  refine lv_ldc2 (v := 3547202774782128955) hx hb hown (hts (.constantLong RL 176 3547202774782128955) (by decide +kernel)) dL_texts_431 ?_
  refine lv_ldc2 (v := 13856252532700219) hx hb hown (hts (.constantLong RL 178 13856252532700219) (by decide +kernel)) dL_texts_434 ?_
  refine lv_bipush (v := (-4)) hx hb dL_texts_437 (by decide) ?_
  refine lv_bipush (v := (-4)) hx hb dL_texts_439 (by decide) ?_
  refine o_callS (o := (tX3, [tX0, tX1, tX2, tX3], 5, (lkL [48, 58, 33, 49, 59, 59, 59, 59, 50, 58, 50, 33, 56]))) (As := [.ref fs, .long (3547202774782128955 : Int64), .long (13856252532700219 : Int64), .int (-4), .int (-4)]) (rest := []) hF (c_L_isFault l E tm tl D fs (tX3, [tX0, tX1, tX2, tX3], 5, (lkL [48, 58, 33, 49, 59, 59, 59, 59, 50, 58, 50, 33, 56])) tXb3 (3547202774782128955 : Int64) (13856252532700219 : Int64) (-4) (-4) (lkL [59, 51, 43, 57, 33, 50, 58, 49]) (lkL [59, 52, 33, 50, 48, 58, 49]) (by unfold okW; decide +kernel) (by unfold okW; decide +kernel) (by (try dsimp only); decide +kernel) (by (try dsimp only); decide +kernel)) (cwS 5 hts gL_texts_L_isFault rfl rfl rfl (by decide +kernel) ⟨Nat.le_of_ble_eq_true rfl, Nat.le_of_ble_eq_true rfl⟩) hG hZ (fun _ h9 => h9) hO hS rfl hl.1 rfl (lv_room (Nat.le_of_ble_eq_true rfl)) dL_texts_441 ⟨Nat.le_of_ble_eq_true rfl, Nat.le_of_ble_eq_true rfl⟩ (fun r9 o9 HZ locsZ hp hO hS hsz9 hfr9 => ?_)
  obtain ⟨rfl, rfl⟩ := hp
  have hO : HO E D fs (tX3, [tX0, tX1, tX2, tX3], 15, (lkL [49, 58, 50, 33, 57, 43, 51, 59, 49, 58, 48, 50, 33, 52, 59])) HZ := HO_txt (by (try dsimp only); decide +kernel) (by (try dsimp only); decide +kernel) hO
  refine lv_if_eq (tgt := 566) hx hb dL_texts_444 (by decide) (fun c9 => absurd c9 (by decide)) (fun _ => ?_)
  refine lv_aload_n hx hb dL_texts_447 rfl (lv_at hl 0 rfl) ?_
  refine o_call (o := (tX3, [tX0, tX1, tX2, tX3], 15, (lkL [49, 58, 50, 33, 57, 43, 51, 59, 49, 58, 48, 50, 33, 52, 59]))) (As := []) (rest := []) hF (U_play_y l E tm tl D fs (tX3, [tX0, tX1, tX2, tX3], 15, (lkL [49, 58, 50, 33, 57, 43, 51, 59, 49, 58, 48, 50, 33, 52, 59])) (by exact tXb3) (by (try dsimp only); decide +kernel) tGd) (cwV 0 hts gL_texts_X6_play rfl rfl rfl (by decide +kernel) ⟨Nat.le_of_ble_eq_true rfl, Nat.le_of_ble_eq_true rfl⟩) hG hZ (fun _ h9 => h9) hO hS rfl hl.1 rfl (lv_room (Nat.le_of_ble_eq_true rfl)) dL_texts_448 ⟨Nat.le_of_ble_eq_true rfl, Nat.le_of_ble_eq_true rfl⟩ (fun r9 o9 HZ locsZ hp hO hS hsz9 hfr9 => ?_)
  obtain ⟨er, rfl⟩ := hp
  obtain rfl : r9 = nI 2 := er.trans (by (try dsimp only); decide +kernel)
  have hO : HO E D fs (tX4, [tX1, tX2, tX3, tX3], 15, (lkL [49, 58, 50, 33, 57, 43, 51, 59, 49, 58, 48, 50, 33, 52, 59])) HZ := HO_ext (by unfold EQX; decide +kernel) (fun _ _ => rfl) hO
  refine lv_iconst (v := nI 2) hx hb dL_texts_451 (by decide) ?_
  refine lv_icmp_ne (tgt := 566) hx hb dL_texts_452 (by decide) (fun c9 => absurd c9 (by decide)) (fun _ => ?_)
  refine lv_aload_n hx hb dL_texts_455 rfl (lv_at hl 0 rfl) ?_
  refine lv_iconst (v := nI 1) hx hb dL_texts_456 (by decide) ?_
  refine o_call (o := (tX4, [tX1, tX2, tX3, tX3], 15, (lkL [49, 58, 50, 33, 57, 43, 51, 59, 49, 58, 48, 50, 33, 52, 59]))) (As := [.int (nI 1)]) (rest := []) hF (U_count_y l E tm tl D fs (tX4, [tX1, tX2, tX3, tX3], 15, (lkL [49, 58, 50, 33, 57, 43, 51, 59, 49, 58, 48, 50, 33, 52, 59])) tXb4 1 (by omega)) (cwV 1 hts gL_texts_X6_count rfl rfl rfl (by decide +kernel) ⟨Nat.le_of_ble_eq_true rfl, Nat.le_of_ble_eq_true rfl⟩) hG hZ (fun _ h9 => h9) hO hS rfl hl.1 rfl (lv_room (Nat.le_of_ble_eq_true rfl)) dL_texts_457 ⟨Nat.le_of_ble_eq_true rfl, Nat.le_of_ble_eq_true rfl⟩ (fun r9 o9 HZ locsZ hp hO hS hsz9 hfr9 => ?_)
  obtain ⟨er, rfl⟩ := hp
  obtain rfl : r9 = nI 3 := er.trans (by (try dsimp only); decide +kernel)
  refine lv_iconst (v := nI 3) hx hb dL_texts_460 (by decide) ?_
  refine lv_icmp_ne (tgt := 566) hx hb dL_texts_461 (by decide) (fun c9 => absurd c9 (by decide)) (fun _ => ?_)
  refine lv_aload_n hx hb dL_texts_464 rfl (lv_at hl 0 rfl) ?_
  refine lv_iconst (v := nI 5) hx hb dL_texts_465 (by decide) ?_
  refine o_call (o := (tX4, [tX1, tX2, tX3, tX3], 15, (lkL [49, 58, 50, 33, 57, 43, 51, 59, 49, 58, 48, 50, 33, 52, 59]))) (As := [.int (nI 5)]) (rest := []) hF (U_count_y l E tm tl D fs (tX4, [tX1, tX2, tX3, tX3], 15, (lkL [49, 58, 50, 33, 57, 43, 51, 59, 49, 58, 48, 50, 33, 52, 59])) tXb4 5 (by omega)) (cwV 1 hts gL_texts_X6_count rfl rfl rfl (by decide +kernel) ⟨Nat.le_of_ble_eq_true rfl, Nat.le_of_ble_eq_true rfl⟩) hG hZ (fun _ h9 => h9) hO hS rfl hl.1 rfl (lv_room (Nat.le_of_ble_eq_true rfl)) dL_texts_466 ⟨Nat.le_of_ble_eq_true rfl, Nat.le_of_ble_eq_true rfl⟩ (fun r9 o9 HZ locsZ hp hO hS hsz9 hfr9 => ?_)
  obtain ⟨er, rfl⟩ := hp
  obtain rfl : r9 = nI 2 := er.trans (by (try dsimp only); decide +kernel)
  refine lv_iconst (v := nI 2) hx hb dL_texts_469 (by decide) ?_
  refine lv_icmp_ne (tgt := 566) hx hb dL_texts_470 (by decide) (fun c9 => absurd c9 (by decide)) (fun _ => ?_)
  refine lv_aload_n hx hb dL_texts_473 rfl (lv_at hl 0 rfl) ?_
  refine lv_iconst (v := nI 4) hx hb dL_texts_474 (by decide) ?_
  refine o_call (o := (tX4, [tX1, tX2, tX3, tX3], 15, (lkL [49, 58, 50, 33, 57, 43, 51, 59, 49, 58, 48, 50, 33, 52, 59]))) (As := [.int (nI 4)]) (rest := []) hF (U_count_y l E tm tl D fs (tX4, [tX1, tX2, tX3, tX3], 15, (lkL [49, 58, 50, 33, 57, 43, 51, 59, 49, 58, 48, 50, 33, 52, 59])) tXb4 4 (by omega)) (cwV 1 hts gL_texts_X6_count rfl rfl rfl (by decide +kernel) ⟨Nat.le_of_ble_eq_true rfl, Nat.le_of_ble_eq_true rfl⟩) hG hZ (fun _ h9 => h9) hO hS rfl hl.1 rfl (lv_room (Nat.le_of_ble_eq_true rfl)) dL_texts_475 ⟨Nat.le_of_ble_eq_true rfl, Nat.le_of_ble_eq_true rfl⟩ (fun r9 o9 HZ locsZ hp hO hS hsz9 hfr9 => ?_)
  obtain ⟨er, rfl⟩ := hp
  obtain rfl : r9 = nI 1 := er.trans (by (try dsimp only); decide +kernel)
  refine lv_iconst (v := nI 1) hx hb dL_texts_478 (by decide) ?_
  refine lv_icmp_ne (tgt := 566) hx hb dL_texts_479 (by decide) (fun c9 => absurd c9 (by decide)) (fun _ => ?_)
  refine lv_aload_n hx hb dL_texts_482 rfl (lv_at hl 0 rfl) ?_
  refine lv_iconst (v := nI 0) hx hb dL_texts_483 (by decide) ?_
  refine lv_iconst (v := nI 0) hx hb dL_texts_484 (by decide) ?_
  refine o_call (o := (tX4, [tX1, tX2, tX3, tX3], 15, (lkL [49, 58, 50, 33, 57, 43, 51, 59, 49, 58, 48, 50, 33, 52, 59]))) (As := [.int (nI 0), .int (nI 0)]) (rest := []) hF (U_played_y l E tm tl D fs (tX4, [tX1, tX2, tX3, tX3], 15, (lkL [49, 58, 50, 33, 57, 43, 51, 59, 49, 58, 48, 50, 33, 52, 59])) tXb4 0 0 (by (try dsimp only); decide +kernel) (by omega)) (cwV 2 hts gL_texts_X6_played rfl rfl rfl (by decide +kernel) ⟨Nat.le_of_ble_eq_true rfl, Nat.le_of_ble_eq_true rfl⟩) hG hZ (fun _ h9 => h9) hO hS rfl hl.1 rfl (lv_room (Nat.le_of_ble_eq_true rfl)) dL_texts_485 ⟨Nat.le_of_ble_eq_true rfl, Nat.le_of_ble_eq_true rfl⟩ (fun r9 o9 HZ locsZ hp hO hS hsz9 hfr9 => ?_)
  obtain ⟨er, rfl⟩ := hp
  obtain rfl : r9 = nI 1 := er.trans (by (try dsimp only); decide +kernel)
  refine lv_iconst (v := nI 1) hx hb dL_texts_488 (by decide) ?_
  refine lv_icmp_ne (tgt := 566) hx hb dL_texts_489 (by decide) (fun c9 => absurd c9 (by decide)) (fun _ => ?_)
  refine lv_aload_n hx hb dL_texts_492 rfl (lv_at hl 0 rfl) ?_
  refine lv_iconst (v := nI 0) hx hb dL_texts_493 (by decide) ?_
  refine lv_iconst (v := nI 1) hx hb dL_texts_494 (by decide) ?_
  refine o_call (o := (tX4, [tX1, tX2, tX3, tX3], 15, (lkL [49, 58, 50, 33, 57, 43, 51, 59, 49, 58, 48, 50, 33, 52, 59]))) (As := [.int (nI 0), .int (nI 1)]) (rest := []) hF (U_played_y l E tm tl D fs (tX4, [tX1, tX2, tX3, tX3], 15, (lkL [49, 58, 50, 33, 57, 43, 51, 59, 49, 58, 48, 50, 33, 52, 59])) tXb4 0 1 (by (try dsimp only); decide +kernel) (by omega)) (cwV 2 hts gL_texts_X6_played rfl rfl rfl (by decide +kernel) ⟨Nat.le_of_ble_eq_true rfl, Nat.le_of_ble_eq_true rfl⟩) hG hZ (fun _ h9 => h9) hO hS rfl hl.1 rfl (lv_room (Nat.le_of_ble_eq_true rfl)) dL_texts_495 ⟨Nat.le_of_ble_eq_true rfl, Nat.le_of_ble_eq_true rfl⟩ (fun r9 o9 HZ locsZ hp hO hS hsz9 hfr9 => ?_)
  obtain ⟨er, rfl⟩ := hp
  obtain rfl : r9 = nI 2 := er.trans (by (try dsimp only); decide +kernel)
  refine lv_iconst (v := nI 2) hx hb dL_texts_498 (by decide) ?_
  refine lv_icmp_ne (tgt := 566) hx hb dL_texts_499 (by decide) (fun c9 => absurd c9 (by decide)) (fun _ => ?_)
  refine lv_aload_n hx hb dL_texts_502 rfl (lv_at hl 0 rfl) ?_
  refine lv_iconst (v := nI 0) hx hb dL_texts_503 (by decide) ?_
  refine lv_iconst (v := nI 2) hx hb dL_texts_504 (by decide) ?_
  refine o_call (o := (tX4, [tX1, tX2, tX3, tX3], 15, (lkL [49, 58, 50, 33, 57, 43, 51, 59, 49, 58, 48, 50, 33, 52, 59]))) (As := [.int (nI 0), .int (nI 2)]) (rest := []) hF (U_played_y l E tm tl D fs (tX4, [tX1, tX2, tX3, tX3], 15, (lkL [49, 58, 50, 33, 57, 43, 51, 59, 49, 58, 48, 50, 33, 52, 59])) tXb4 0 2 (by (try dsimp only); decide +kernel) (by omega)) (cwV 2 hts gL_texts_X6_played rfl rfl rfl (by decide +kernel) ⟨Nat.le_of_ble_eq_true rfl, Nat.le_of_ble_eq_true rfl⟩) hG hZ (fun _ h9 => h9) hO hS rfl hl.1 rfl (lv_room (Nat.le_of_ble_eq_true rfl)) dL_texts_505 ⟨Nat.le_of_ble_eq_true rfl, Nat.le_of_ble_eq_true rfl⟩ (fun r9 o9 HZ locsZ hp hO hS hsz9 hfr9 => ?_)
  obtain ⟨er, rfl⟩ := hp
  obtain rfl : r9 = nI 2 := er.trans (by (try dsimp only); decide +kernel)
  refine lv_iconst (v := nI 2) hx hb dL_texts_508 (by decide) ?_
  refine lv_icmp_ne (tgt := 566) hx hb dL_texts_509 (by decide) (fun c9 => absurd c9 (by decide)) (fun _ => ?_)
  refine lv_aload_n hx hb dL_texts_512 rfl (lv_at hl 0 rfl) ?_
  refine lv_iconst (v := nI 1) hx hb dL_texts_513 (by decide) ?_
  refine lv_iconst (v := nI 1) hx hb dL_texts_514 (by decide) ?_
  refine o_call (o := (tX4, [tX1, tX2, tX3, tX3], 15, (lkL [49, 58, 50, 33, 57, 43, 51, 59, 49, 58, 48, 50, 33, 52, 59]))) (As := [.int (nI 1), .int (nI 1)]) (rest := []) hF (U_stringInfo_y l E tm tl D fs (tX4, [tX1, tX2, tX3, tX3], 15, (lkL [49, 58, 50, 33, 57, 43, 51, 59, 49, 58, 48, 50, 33, 52, 59])) tXb4 1 1 (by omega) (by omega)) (cwV 2 hts gL_texts_X6_stringInfo rfl rfl rfl (by decide +kernel) ⟨Nat.le_of_ble_eq_true rfl, Nat.le_of_ble_eq_true rfl⟩) hG hZ (fun _ h9 => h9) hO hS rfl hl.1 rfl (lv_room (Nat.le_of_ble_eq_true rfl)) dL_texts_515 ⟨Nat.le_of_ble_eq_true rfl, Nat.le_of_ble_eq_true rfl⟩ (fun r9 o9 HZ locsZ hp hO hS hsz9 hfr9 => ?_)
  obtain ⟨er, rfl⟩ := hp
  obtain rfl : r9 = nI 2 := er.trans (by (try dsimp only); decide +kernel)
  refine lv_iconst (v := nI 2) hx hb dL_texts_518 (by decide) ?_
  refine lv_icmp_ne (tgt := 566) hx hb dL_texts_519 (by decide) (fun c9 => absurd c9 (by decide)) (fun _ => ?_)
  refine lv_aload_n hx hb dL_texts_522 rfl (lv_at hl 0 rfl) ?_
  refine lv_iconst (v := nI 2) hx hb dL_texts_523 (by decide) ?_
  refine lv_iconst (v := nI 2) hx hb dL_texts_524 (by decide) ?_
  refine o_call (o := (tX4, [tX1, tX2, tX3, tX3], 15, (lkL [49, 58, 50, 33, 57, 43, 51, 59, 49, 58, 48, 50, 33, 52, 59]))) (As := [.int (nI 2), .int (nI 2)]) (rest := []) hF (U_fretInfo_y l E tm tl D fs (tX4, [tX1, tX2, tX3, tX3], 15, (lkL [49, 58, 50, 33, 57, 43, 51, 59, 49, 58, 48, 50, 33, 52, 59])) tXb4 2 2 (by omega) (by (try dsimp only); decide +kernel) (by omega)) (cwV 2 hts gL_texts_X6_fretInfo rfl rfl rfl (by decide +kernel) ⟨Nat.le_of_ble_eq_true rfl, Nat.le_of_ble_eq_true rfl⟩) hG hZ (fun _ h9 => h9) hO hS rfl hl.1 rfl (lv_room (Nat.le_of_ble_eq_true rfl)) dL_texts_525 ⟨Nat.le_of_ble_eq_true rfl, Nat.le_of_ble_eq_true rfl⟩ (fun r9 o9 HZ locsZ hp hO hS hsz9 hfr9 => ?_)
  obtain ⟨er, rfl⟩ := hp
  obtain rfl : r9 = nI 13 := er.trans (by (try dsimp only); decide +kernel)
  refine lv_bipush (v := nI 13) hx hb dL_texts_528 (by decide) ?_
  refine lv_icmp_ne (tgt := 566) hx hb dL_texts_530 (by decide) (fun c9 => absurd c9 (by decide)) (fun _ => ?_)
  refine lv_aload_n hx hb dL_texts_533 rfl (lv_at hl 0 rfl) ?_
  refine o_call (o := (tX4, [tX1, tX2, tX3, tX3], 15, (lkL [49, 58, 50, 33, 57, 43, 51, 59, 49, 58, 48, 50, 33, 52, 59]))) (As := []) (rest := []) hF (U_undo_y l E tm tl D fs (tX4, [tX1, tX2, tX3, tX3], 15, (lkL [49, 58, 50, 33, 57, 43, 51, 59, 49, 58, 48, 50, 33, 52, 59])) [tX1, tX2, tX3] tX3 rfl) (cwV 0 hts gL_texts_X6_undo rfl rfl rfl (by decide +kernel) ⟨Nat.le_of_ble_eq_true rfl, Nat.le_of_ble_eq_true rfl⟩) hG hZ (fun _ h9 => h9) hO hS rfl hl.1 rfl (lv_room (Nat.le_of_ble_eq_true rfl)) dL_texts_534 ⟨Nat.le_of_ble_eq_true rfl, Nat.le_of_ble_eq_true rfl⟩ (fun r9 o9 HZ locsZ hp hO hS hsz9 hfr9 => ?_)
  obtain ⟨rfl, rfl⟩ := hp
  have hO : HO E D fs (tX3, [tX1, tX2, tX3], 15, (lkL [49, 58, 50, 33, 57, 43, 51, 59, 49, 58, 48, 50, 33, 52, 59])) HZ := hO
  refine lv_iconst (v := nI 3) hx hb dL_texts_537 (by decide) ?_
  refine lv_icmp_ne (tgt := 566) hx hb dL_texts_538 (by decide) (fun c9 => absurd c9 (by decide)) (fun _ => ?_)
  refine lv_aload_n hx hb dL_texts_541 rfl (lv_at hl 0 rfl) ?_
  refine lv_iconst (v := nI 1) hx hb dL_texts_542 (by decide) ?_
  refine o_call (o := (tX3, [tX1, tX2, tX3], 15, (lkL [49, 58, 50, 33, 57, 43, 51, 59, 49, 58, 48, 50, 33, 52, 59]))) (As := [.int (nI 1)]) (rest := []) hF (U_count_y l E tm tl D fs (tX3, [tX1, tX2, tX3], 15, (lkL [49, 58, 50, 33, 57, 43, 51, 59, 49, 58, 48, 50, 33, 52, 59])) tXb3 1 (by omega)) (cwV 1 hts gL_texts_X6_count rfl rfl rfl (by decide +kernel) ⟨Nat.le_of_ble_eq_true rfl, Nat.le_of_ble_eq_true rfl⟩) hG hZ (fun _ h9 => h9) hO hS rfl hl.1 rfl (lv_room (Nat.le_of_ble_eq_true rfl)) dL_texts_543 ⟨Nat.le_of_ble_eq_true rfl, Nat.le_of_ble_eq_true rfl⟩ (fun r9 o9 HZ locsZ hp hO hS hsz9 hfr9 => ?_)
  obtain ⟨er, rfl⟩ := hp
  obtain rfl : r9 = nI 0 := er.trans (by (try dsimp only); decide +kernel)
  refine lv_if_ne (tgt := 566) hx hb dL_texts_546 (by decide) (fun c9 => absurd c9 (by decide)) (fun _ => ?_)
  refine lv_aload_n hx hb dL_texts_549 rfl (lv_at hl 0 rfl) ?_
  refine lv_iconst (v := nI 5) hx hb dL_texts_550 (by decide) ?_
  refine o_call (o := (tX3, [tX1, tX2, tX3], 15, (lkL [49, 58, 50, 33, 57, 43, 51, 59, 49, 58, 48, 50, 33, 52, 59]))) (As := [.int (nI 5)]) (rest := []) hF (U_count_y l E tm tl D fs (tX3, [tX1, tX2, tX3], 15, (lkL [49, 58, 50, 33, 57, 43, 51, 59, 49, 58, 48, 50, 33, 52, 59])) tXb3 5 (by omega)) (cwV 1 hts gL_texts_X6_count rfl rfl rfl (by decide +kernel) ⟨Nat.le_of_ble_eq_true rfl, Nat.le_of_ble_eq_true rfl⟩) hG hZ (fun _ h9 => h9) hO hS rfl hl.1 rfl (lv_room (Nat.le_of_ble_eq_true rfl)) dL_texts_551 ⟨Nat.le_of_ble_eq_true rfl, Nat.le_of_ble_eq_true rfl⟩ (fun r9 o9 HZ locsZ hp hO hS hsz9 hfr9 => ?_)
  obtain ⟨er, rfl⟩ := hp
  obtain rfl : r9 = nI 0 := er.trans (by (try dsimp only); decide +kernel)
  refine lv_if_ne (tgt := 566) hx hb dL_texts_554 (by decide) (fun c9 => absurd c9 (by decide)) (fun _ => ?_)
  refine lv_aload_n hx hb dL_texts_557 rfl (lv_at hl 0 rfl) ?_
  refine o_call (o := (tX3, [tX1, tX2, tX3], 15, (lkL [49, 58, 50, 33, 57, 43, 51, 59, 49, 58, 48, 50, 33, 52, 59]))) (As := []) (rest := []) hF (U_clearText l E tm tl D fs (tX3, [tX1, tX2, tX3], 15, (lkL [49, 58, 50, 33, 57, 43, 51, 59, 49, 58, 48, 50, 33, 52, 59]))) (cwV 0 hts gL_texts_X6_clearText rfl rfl rfl (by decide +kernel) ⟨Nat.le_of_ble_eq_true rfl, Nat.le_of_ble_eq_true rfl⟩) hG hZ (fun _ h9 => h9) hO hS rfl hl.1 rfl (lv_room (Nat.le_of_ble_eq_true rfl)) dL_texts_558 ⟨Nat.le_of_ble_eq_true rfl, Nat.le_of_ble_eq_true rfl⟩ (fun r9 o9 HZ locsZ hp hO hS hsz9 hfr9 => ?_)
  obtain ⟨rfl, rfl⟩ := hp
  refine lv_topi (fun r8 e8 => ?_)
  obtain rfl : r8 = nI 15 := e8
  have hO : HO E D fs (tX3, [tX1, tX2, tX3], 0, (lkL [49, 58, 50, 33, 57, 43, 51, 59, 49, 58, 48, 50, 33, 52, 59])) HZ := hO
  refine lv_bipush (v := nI 15) hx hb dL_texts_561 (by decide) ?_
  refine lv_icmp_eq (tgt := 568) hx hb dL_texts_563 (by decide) (fun _ => ?_) (fun c9 => absurd c9 (by decide))
  refine lv_iconst (v := nI 0) hx hb dL_texts_568 (by decide) ?_
  refine lv_istore_n (lv' := [(1, .int (nI 0)), (0, .ref fs)]) hx hb dL_texts_569 rfl hl (by decide) rfl (fun ls hl => ?_)
  have hl := lv_sub hl [1, 0] rfl
  have T3 : ∀ (hl : List (Nat → Nat → Nat)), ∀ (HZ : Heap) (locsZ : List Loc) (ls : Array Slot), HO E D fs (tR 200, hl, 80, fun _ => 48) HZ → va_S D sZ.heap HZ locsZ → lv_has ls 2 [(0, .ref fs), (1, .int (nI 81))] → W pZ l eZ ({ frames := 8, cells := 90, slots := 1284, locals := 183 }) sZ mZ argsZ belowZ methZ cZ HZ locsZ 90 1284 QZ (F0 mZ 673 ls []) := by
    intro hh HZ locsZ ls hO hS hl
    refine lv_aload_n hx hb dL_texts_673 rfl (lv_at hl 0 rfl) ?_
    refine lv_bipush (v := nI 48) hx hb dL_texts_674 (by decide) ?_
    refine o_call (o := (tR 200, hh, 80, fun _ => 48)) (As := [.int (nI 48)]) (rest := []) hF (U_type_l l E tm tl D fs (tR 200, hh, 80, fun _ => 48) 48 (by omega) (by omega) rfl) (cwV 1 hts gL_texts_X6_type rfl rfl rfl (by decide +kernel) ⟨Nat.le_of_ble_eq_true rfl, Nat.le_of_ble_eq_true rfl⟩) hG hZ (fun _ h9 => h9) hO hS rfl hl.1 rfl (lv_room (Nat.le_of_ble_eq_true rfl)) dL_texts_676 ⟨Nat.le_of_ble_eq_true rfl, Nat.le_of_ble_eq_true rfl⟩ (fun r9 o9 HZ locsZ hp hO hS hsz9 hfr9 => ?_)
    obtain ⟨rfl, rfl⟩ := hp
    refine lv_bipush (v := (-3)) hx hb dL_texts_679 (by decide) ?_
    refine lv_icmp_ne (tgt := 716) hx hb dL_texts_681 (by decide) (fun c9 => absurd c9 (by decide)) (fun _ => ?_)
    refine lv_aload_n hx hb dL_texts_684 rfl (lv_at hl 0 rfl) ?_
    refine lv_bipush (v := nI 31) hx hb dL_texts_685 (by decide) ?_
    refine o_call (o := (tR 200, hh, 80, fun _ => 48)) (As := [.int (nI 31)]) (rest := []) hF (U_type_i l E tm tl D fs (tR 200, hh, 80, fun _ => 48) (nI 31) (by (try dsimp only); decide +kernel)) (cwV 1 hts gL_texts_X6_type rfl rfl rfl (by decide +kernel) ⟨Nat.le_of_ble_eq_true rfl, Nat.le_of_ble_eq_true rfl⟩) hG hZ (fun _ h9 => h9) hO hS rfl hl.1 rfl (lv_room (Nat.le_of_ble_eq_true rfl)) dL_texts_687 ⟨Nat.le_of_ble_eq_true rfl, Nat.le_of_ble_eq_true rfl⟩ (fun r9 o9 HZ locsZ hp hO hS hsz9 hfr9 => ?_)
    obtain ⟨rfl, rfl⟩ := hp
    refine lv_iconst (v := (-1)) hx hb dL_texts_690 (by decide) ?_
    refine lv_icmp_ne (tgt := 716) hx hb dL_texts_691 (by decide) (fun c9 => absurd c9 (by decide)) (fun _ => ?_)
    refine lv_aload_n hx hb dL_texts_694 rfl (lv_at hl 0 rfl) ?_
    refine lv_iconst (v := nI 1) hx hb dL_texts_695 (by decide) ?_
    refine o_call (o := (tR 200, hh, 80, fun _ => 48)) (As := [.int (nI 1)]) (rest := []) hF (U_fault_y l E tm tl D fs (tR 200, hh, 80, fun _ => 48) (tRb 200 (by omega)) 1 (by omega)) (cwV 1 hts gL_texts_X6_fault rfl rfl rfl (by decide +kernel) ⟨Nat.le_of_ble_eq_true rfl, Nat.le_of_ble_eq_true rfl⟩) hG hZ (fun _ h9 => h9) hO hS rfl hl.1 rfl (lv_room (Nat.le_of_ble_eq_true rfl)) dL_texts_696 ⟨Nat.le_of_ble_eq_true rfl, Nat.le_of_ble_eq_true rfl⟩ (fun r9 o9 HZ locsZ hp hO hS hsz9 hfr9 => ?_)
    obtain ⟨er, rfl⟩ := hp
    obtain rfl : r9 = nI 1 := er.trans (by (try dsimp only); decide +kernel)
    refine lv_iconst (v := nI 1) hx hb dL_texts_699 (by decide) ?_
    refine lv_icmp_ne (tgt := 716) hx hb dL_texts_700 (by decide) (fun c9 => absurd c9 (by decide)) (fun _ => ?_)
    refine lv_aload_n hx hb dL_texts_703 rfl (lv_at hl 0 rfl) ?_
    refine o_call (o := (tR 200, hh, 80, fun _ => 48)) (As := []) (rest := []) hF (U_clearText l E tm tl D fs (tR 200, hh, 80, fun _ => 48)) (cwV 0 hts gL_texts_X6_clearText rfl rfl rfl (by decide +kernel) ⟨Nat.le_of_ble_eq_true rfl, Nat.le_of_ble_eq_true rfl⟩) hG hZ (fun _ h9 => h9) hO hS rfl hl.1 rfl (lv_room (Nat.le_of_ble_eq_true rfl)) dL_texts_704 ⟨Nat.le_of_ble_eq_true rfl, Nat.le_of_ble_eq_true rfl⟩ (fun r9 o9 HZ locsZ hp hO hS hsz9 hfr9 => ?_)
    obtain ⟨rfl, rfl⟩ := hp
    refine lv_topi (fun r8 e8 => ?_)
    obtain rfl : r8 = nI 80 := e8
    refine lv_bipush (v := nI 80) hx hb dL_texts_707 (by decide) ?_
    refine lv_icmp_ne (tgt := 716) hx hb dL_texts_709 (by decide) (fun c9 => absurd c9 (by decide)) (fun _ => ?_)
    refine lv_iconst (v := nI 1) hx hb dL_texts_712 (by decide) ?_
    refine lv_goto (tgt := 717) hx hb dL_texts_713 (by decide) ?_
    exact hret _ _ _ _ hS dL_texts_717
  have T2 : ∀ (fu k : Nat), 81 - k < fu → 1 ≤ k → k ≤ 81 → ∀ (hh : List (Nat → Nat → Nat)) (Ch : Nat → Nat), (∀ i, i < k - 1 → Ch i = 48) → ∀ (HZ : Heap) (locsZ : List Loc) (ls : Array Slot), HO E D fs (tR 200, hh, k - 1, Ch) HZ → va_S D sZ.heap HZ locsZ → lv_has ls 2 [(0, .ref fs), (1, .int (nI k))] → W pZ l eZ ({ frames := 8, cells := 90, slots := 1284, locals := 183 }) sZ mZ argsZ belowZ methZ cZ HZ locsZ 90 1284 QZ (F0 mZ 649 ls []) := by
    intro fu
    induction fu with
    | zero => intro k h; exact absurd h (Nat.not_lt_zero _)
    | succ fu ih =>
      intro k hm hk1 hk2 hh Ch hC HZ locsZ ls hO hS hl
      refine lv_iload_n hx hb dL_texts_649 rfl (lv_at hl 1 rfl) ?_
      refine lv_bipush (v := nI 80) hx hb dL_texts_650 (by decide) ?_
      refine z_icmp_gt (tgt := 673) hx hb dL_texts_652 (by decide) (by omega) (by omega) (fun c1 => ?_) (fun c1 => ?_)
      · -- out
        obtain rfl : k = 81 := by omega
        exact T3 hh _ _ _ (HO_ext ⟨fun i _ => ⟨rfl, rfl, rfl⟩, fun i _ => ⟨rfl, rfl, rfl, rfl, rfl, rfl, rfl⟩, fun i _ => rfl, fun i _ => ⟨rfl, rfl⟩, fun i _ => rfl⟩ (fun i hi => hC i (by omega)) hO) hS hl
      · -- in
        refine lv_aload_n hx hb dL_texts_655 rfl (lv_at hl 0 rfl) ?_
        refine lv_bipush (v := nI 48) hx hb dL_texts_656 (by decide) ?_
        refine o_call (o := (tR 200, hh, k - 1, Ch)) (As := [.int (nI 48)]) (rest := []) hF (U_type_y l E tm tl D fs (tR 200, hh, k - 1, Ch) 48 (by omega) (by omega) (by show k - 1 < 80; omega)) (cwV 1 hts gL_texts_X6_type rfl rfl rfl (by decide +kernel) ⟨Nat.le_of_ble_eq_true rfl, Nat.le_of_ble_eq_true rfl⟩) hG hZ (fun _ h9 => h9) hO hS rfl hl.1 rfl (lv_room (Nat.le_of_ble_eq_true rfl)) dL_texts_658 ⟨Nat.le_of_ble_eq_true rfl, Nat.le_of_ble_eq_true rfl⟩ (fun r9 o9 HZ locsZ hp hO hS hsz9 hfr9 => ?_)
        obtain ⟨rfl, rfl⟩ := hp
        refine lv_iload_n hx hb dL_texts_661 rfl (lv_at hl 1 rfl) ?_
        refine z_icmp_eq (a := k - 1 + 1) (b := k) (tgt := 667) hx hb dL_texts_662 (by decide) (by omega) (by omega) (fun _ => ?_) (fun c9 => absurd (show k - 1 + 1 = k by omega) c9)
        refine z_iinc (k := 1) (d := 1) (lv' := [(1, .int (nI (k + 1))), (0, .ref fs)]) hx hb dL_texts_667 (by decide) hl rfl (by decide) rfl (fun ls hl => ?_)
        refine lv_goto (tgt := 649) hx hb dL_texts_670 (by decide) ?_
        have hl := lv_sub hl [1, 0] rfl
        have hO : HO E D fs (tR 200, hh, (k + 1) - 1, va_up Ch (k - 1) 48) HZ := by rw [show k + 1 - 1 = k - 1 + 1 by omega]; exact hO
        exact ih (k + 1) (by omega) (by omega) (by omega) hh _ (fun i hi => by simp only [va_up]; split; rfl; exact hC i (by omega)) _ _ _ hO hS hl
  have T1 : ∀ (hl : List (Nat → Nat → Nat)), ∀ (HZ : Heap) (locsZ : List Loc) (ls : Array Slot), HO E D fs (tR 200, hl, 0, (lkL [49, 58, 50, 33, 57, 43, 51, 59, 49, 58, 48, 50, 33, 52, 59])) HZ → va_S D sZ.heap HZ locsZ → lv_has ls 2 [(0, .ref fs), (1, .int (nI 200))] → W pZ l eZ ({ frames := 8, cells := 90, slots := 1284, locals := 183 }) sZ mZ argsZ belowZ methZ cZ HZ locsZ 90 1284 QZ (F0 mZ 595 ls []) := by
    intro hh HZ locsZ ls hO hS hl
    refine lv_aload_n hx hb dL_texts_595 rfl (lv_at hl 0 rfl) ?_
    refine lv_iconst (v := nI 1) hx hb dL_texts_596 (by decide) ?_
    refine o_call (o := (tR 200, hh, 0, (lkL [49, 58, 50, 33, 57, 43, 51, 59, 49, 58, 48, 50, 33, 52, 59]))) (As := [.int (nI 1)]) (rest := []) hF (U_run_l l E tm tl D fs (tR 200, hh, 0, (lkL [49, 58, 50, 33, 57, 43, 51, 59, 49, 58, 48, 50, 33, 52, 59])) (tRb 200 (by omega)) 1 (by omega) (by omega) (by (try dsimp only); decide +kernel)) (cwV 1 hts gL_texts_X6_run rfl rfl rfl (by decide +kernel) ⟨Nat.le_of_ble_eq_true rfl, Nat.le_of_ble_eq_true rfl⟩) hG hZ (fun _ h9 => h9) hO hS rfl hl.1 rfl (lv_room (Nat.le_of_ble_eq_true rfl)) dL_texts_597 ⟨Nat.le_of_ble_eq_true rfl, Nat.le_of_ble_eq_true rfl⟩ (fun r9 o9 HZ locsZ hp hO hS hsz9 hfr9 => ?_)
    obtain ⟨rfl, rfl⟩ := hp
    refine lv_bipush (v := (-3)) hx hb dL_texts_600 (by decide) ?_
    refine lv_icmp_ne (tgt := 645) hx hb dL_texts_602 (by decide) (fun c9 => absurd c9 (by decide)) (fun _ => ?_)
    refine lv_aload_n hx hb dL_texts_605 rfl (lv_at hl 0 rfl) ?_
    refine lv_iconst (v := nI 0) hx hb dL_texts_606 (by decide) ?_
    refine o_call (o := (tR 200, hh, 0, (lkL [49, 58, 50, 33, 57, 43, 51, 59, 49, 58, 48, 50, 33, 52, 59]))) (As := [.int (nI 0)]) (rest := []) hF (U_run_i l E tm tl D fs (tR 200, hh, 0, (lkL [49, 58, 50, 33, 57, 43, 51, 59, 49, 58, 48, 50, 33, 52, 59])) (tRb 200 (by omega)) (nI 0) (by (try dsimp only); decide +kernel)) (cwV 1 hts gL_texts_X6_run rfl rfl rfl (by decide +kernel) ⟨Nat.le_of_ble_eq_true rfl, Nat.le_of_ble_eq_true rfl⟩) hG hZ (fun _ h9 => h9) hO hS rfl hl.1 rfl (lv_room (Nat.le_of_ble_eq_true rfl)) dL_texts_607 ⟨Nat.le_of_ble_eq_true rfl, Nat.le_of_ble_eq_true rfl⟩ (fun r9 o9 HZ locsZ hp hO hS hsz9 hfr9 => ?_)
    obtain ⟨rfl, rfl⟩ := hp
    refine lv_iconst (v := (-1)) hx hb dL_texts_610 (by decide) ?_
    refine lv_icmp_ne (tgt := 645) hx hb dL_texts_611 (by decide) (fun c9 => absurd c9 (by decide)) (fun _ => ?_)
    refine lv_aload_n hx hb dL_texts_614 rfl (lv_at hl 0 rfl) ?_
    refine lv_ldc2 (v := 3475142981586727227) hx hb hown (hts (.constantLong RL 183 3475142981586727227) (by decide +kernel)) dL_texts_615 ?_
    refine lv_lconst (v := 0) hx hb dL_texts_618 (by decide) ?_
    refine lv_iconst (v := nI 0) hx hb dL_texts_619 (by decide) ?_
    refine lv_iconst (v := nI 4) hx hb dL_texts_620 (by decide) ?_
    refine o_callS (o := (tR 200, hh, 0, (lkL [49, 58, 50, 33, 57, 43, 51, 59, 49, 58, 48, 50, 33, 52, 59]))) (As := [.ref fs, .long (3475142981586727227 : Int64), .long (0 : Int64), .int (nI 0), .int (nI 4)]) (rest := []) hF (c_L_isFault l E tm tl D fs (tR 200, hh, 0, (lkL [49, 58, 50, 33, 57, 43, 51, 59, 49, 58, 48, 50, 33, 52, 59])) (tRb 200 (by omega)) (3475142981586727227 : Int64) (0 : Int64) (nI 0) (nI 4) (lkL [59, 49, 43, 49, 33, 48, 58, 48]) (lkL []) (by unfold okW; decide +kernel) (by unfold okW; decide +kernel) (by (try dsimp only); decide +kernel) (by (try dsimp only); decide +kernel)) (cwS 5 hts gL_texts_L_isFault rfl rfl rfl (by decide +kernel) ⟨Nat.le_of_ble_eq_true rfl, Nat.le_of_ble_eq_true rfl⟩) hG hZ (fun _ h9 => h9) hO hS rfl hl.1 rfl (lv_room (Nat.le_of_ble_eq_true rfl)) dL_texts_621 ⟨Nat.le_of_ble_eq_true rfl, Nat.le_of_ble_eq_true rfl⟩ (fun r9 o9 HZ locsZ hp hO hS hsz9 hfr9 => ?_)
    obtain ⟨rfl, rfl⟩ := hp
    have hO : HO E D fs (tR 200, hh, 8, (lkL [48, 58, 48, 33, 49, 43, 49, 59, 49, 58, 48, 50, 33, 52, 59])) HZ := HO_txt (by (try dsimp only); decide +kernel) (by (try dsimp only); decide +kernel) hO
    refine lv_if_eq (tgt := 645) hx hb dL_texts_624 (by decide) (fun c9 => absurd c9 (by decide)) (fun _ => ?_)
    refine lv_aload_n hx hb dL_texts_627 rfl (lv_at hl 0 rfl) ?_
    refine o_call (o := (tR 200, hh, 8, (lkL [48, 58, 48, 33, 49, 43, 49, 59, 49, 58, 48, 50, 33, 52, 59]))) (As := []) (rest := []) hF (U_play_p l E tm tl D fs (tR 200, hh, 8, (lkL [48, 58, 48, 33, 49, 43, 49, 59, 49, 58, 48, 50, 33, 52, 59])) (by exact tRb 200 (by omega)) (by (try dsimp only); decide +kernel)) (cwV 0 hts gL_texts_X6_play rfl rfl rfl (by decide +kernel) ⟨Nat.le_of_ble_eq_true rfl, Nat.le_of_ble_eq_true rfl⟩) hG hZ (fun _ h9 => h9) hO hS rfl hl.1 rfl (lv_room (Nat.le_of_ble_eq_true rfl)) dL_texts_628 ⟨Nat.le_of_ble_eq_true rfl, Nat.le_of_ble_eq_true rfl⟩ (fun r9 o9 HZ locsZ hp hO hS hsz9 hfr9 => ?_)
    obtain ⟨rfl, rfl⟩ := hp
    refine lv_bipush (v := (-2)) hx hb dL_texts_631 (by decide) ?_
    refine lv_icmp_ne (tgt := 645) hx hb dL_texts_633 (by decide) (fun c9 => absurd c9 (by decide)) (fun _ => ?_)
    refine lv_aload_n hx hb dL_texts_636 rfl (lv_at hl 0 rfl) ?_
    refine o_call (o := (tR 200, hh, 8, (lkL [48, 58, 48, 33, 49, 43, 49, 59, 49, 58, 48, 50, 33, 52, 59]))) (As := []) (rest := []) hF (U_clearText l E tm tl D fs (tR 200, hh, 8, (lkL [48, 58, 48, 33, 49, 43, 49, 59, 49, 58, 48, 50, 33, 52, 59]))) (cwV 0 hts gL_texts_X6_clearText rfl rfl rfl (by decide +kernel) ⟨Nat.le_of_ble_eq_true rfl, Nat.le_of_ble_eq_true rfl⟩) hG hZ (fun _ h9 => h9) hO hS rfl hl.1 rfl (lv_room (Nat.le_of_ble_eq_true rfl)) dL_texts_637 ⟨Nat.le_of_ble_eq_true rfl, Nat.le_of_ble_eq_true rfl⟩ (fun r9 o9 HZ locsZ hp hO hS hsz9 hfr9 => ?_)
    obtain ⟨rfl, rfl⟩ := hp
    refine lv_topi (fun r8 e8 => ?_)
    obtain rfl : r8 = nI 8 := e8
    refine lv_bipush (v := nI 8) hx hb dL_texts_640 (by decide) ?_
    refine lv_icmp_eq (tgt := 647) hx hb dL_texts_642 (by decide) (fun _ => ?_) (fun c9 => absurd c9 (by decide))
    refine lv_iconst (v := nI 1) hx hb dL_texts_647 (by decide) ?_
    refine lv_istore_n (lv' := [(1, .int (nI 1)), (0, .ref fs)]) hx hb dL_texts_648 rfl hl (by decide) rfl (fun ls hl => ?_)
    have hl := lv_sub hl [1, 0] rfl
    exact T2 (81 - 1 + 1) 1 (Nat.lt_succ_self _) (by omega) (by omega) hh _ (fun i hi => absurd hi (by omega)) _ _ _ hO hS hl
  have L1 : ∀ (fu k : Nat), 200 - k < fu → k ≤ 200 → ∀ (hh : List (Nat → Nat → Nat)), ∀ (HZ : Heap) (locsZ : List Loc) (ls : Array Slot), HO E D fs (tR k, hh, 0, (lkL [49, 58, 50, 33, 57, 43, 51, 59, 49, 58, 48, 50, 33, 52, 59])) HZ → va_S D sZ.heap HZ locsZ → lv_has ls 2 [(0, .ref fs), (1, .int (nI k))] → W pZ l eZ ({ frames := 8, cells := 90, slots := 1284, locals := 183 }) sZ mZ argsZ belowZ methZ cZ HZ locsZ 90 1284 QZ (F0 mZ 570 ls []) := by
    intro fu
    induction fu with
    | zero => intro k h; exact absurd h (Nat.not_lt_zero _)
    | succ fu ih =>
      intro k hm hk hh HZ locsZ ls hO hS hl
      refine lv_iload_n hx hb dL_texts_570 rfl (lv_at hl 1 rfl) ?_
      refine lv_sipush (v := nI 200) hx hb dL_texts_571 (by decide) ?_
      refine z_icmp_ge (tgt := 595) hx hb dL_texts_574 (by decide) (by omega) (by omega) (fun c1 => ?_) (fun c1 => ?_)
      · -- out
        obtain rfl : k = 200 := by omega
        exact T1 hh _ _ _ hO hS hl
      · -- in
        refine lv_aload_n hx hb dL_texts_577 rfl (lv_at hl 0 rfl) ?_
        refine lv_sipush (v := nI 500) hx hb dL_texts_578 (by decide) ?_
        refine o_call (o := (tR k, hh, 0, (lkL [49, 58, 50, 33, 57, 43, 51, 59, 49, 58, 48, 50, 33, 52, 59]))) (As := [.int (nI 500)]) (rest := []) hF (U_run_y l E tm tl D fs (tR k, hh, 0, (lkL [49, 58, 50, 33, 57, 43, 51, 59, 49, 58, 48, 50, 33, 52, 59])) (tRb k hk) 500 (by omega) (by omega) (by show 500 * k + 500 ≤ 100000; omega)) (cwV 1 hts gL_texts_X6_run rfl rfl rfl (by decide +kernel) ⟨Nat.le_of_ble_eq_true rfl, Nat.le_of_ble_eq_true rfl⟩) hG hZ (fun _ h9 => h9) hO hS rfl hl.1 rfl (lv_room (Nat.le_of_ble_eq_true rfl)) dL_texts_581 ⟨Nat.le_of_ble_eq_true rfl, Nat.le_of_ble_eq_true rfl⟩ (fun r9 o9 HZ locsZ hp hO hS hsz9 hfr9 => ?_)
        obtain ⟨er, rfl⟩ := hp
        obtain rfl : r9 = nI 0 := er.trans (congrArg nI (hrL_z (tRam k) 4 (Nat.le_refl _)))
        refine lv_if_eq (tgt := 589) hx hb dL_texts_584 (by decide) (fun _ => ?_) (fun c9 => absurd c9 (by decide))
        refine z_iinc (k := 1) (d := 1) (lv' := [(1, .int (nI (k + 1))), (0, .ref fs)]) hx hb dL_texts_589 (by decide) hl rfl (by decide) rfl (fun ls hl => ?_)
        refine lv_goto (tgt := 570) hx hb dL_texts_592 (by decide) ?_
        have hl := lv_sub hl [1, 0] rfl
        have hO : HO E D fs (tR (k + 1), kpH hh (tR k), 0, (lkL [49, 58, 50, 33, 57, 43, 51, 59, 49, 58, 48, 50, 33, 52, 59])) HZ := HO_ext (tRs k) (fun _ _ => rfl) hO
        exact ih (k + 1) (by omega) (by omega) _ _ _ _ hO hS hl
  have hO : HO E D fs (tR 0, [tX1, tX2, tX3], 0, (lkL [49, 58, 50, 33, 57, 43, 51, 59, 49, 58, 48, 50, 33, 52, 59])) HZ := HO_ext (by unfold EQX; decide +kernel) (fun _ _ => rfl) hO
  exact L1 (200 - 0 + 1) 0 (Nat.lt_succ_self _) (Nat.zero_le _) _ _ _ _ hO hS hl
