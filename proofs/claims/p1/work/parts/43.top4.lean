set_option maxHeartbeats 4000000 in
set_option maxRecDepth 100000 in
theorem k_X11_keep (l : Launch) (D : va_G) (κ : Nat → ClassId) (β : Nat) (a11 : Nat) (a7 : Nat) (a5 : Nat) (a3 : Nat) (a2 : Nat) (a6 : Nat) (a4 : Nat) (a10 : Nat) (a9 : Nat) (a1 : Nat) (a0 : Nat) (a8 : Nat) (aN : Nat) (r0 : Nat → Nat) (r8 : Nat → Nat) (v0_count : Int32) (v0_ran : Int32) (v0_actor : Int32) (f0_kinds : Nat → Int32) (f8_sorts : Nat → Int32) (sz : Nat) (p1 : Int32) (p2 : Int32) (i1 : Rg 0 50 v0_count) (i2 : Rg 0 100000000 v0_ran) (i3 : Rg 0 49 v0_actor) (hf0_kinds : ∀ j : Nat, 0 ≤ (f0_kinds j).toInt ∧ (f0_kinds j).toInt ≤ 7) (i4 : v0_count.toInt = 0) : Met l yX11_keep wsX11_keep ({ frames := 2, cells := 0, slots := 0, locals := 52 } : Room) (PcK D κ β [O11 a11 a7 a5 a3 a2 a6 a4 a10 a9 a1 a0 a8 aN, O0 a0 r0 v0_count v0_ran v0_actor, (cI κ (r0 0) 50 f0_kinds), O8 a8 r8, (cI κ (r8 0) 6 f8_sorts)] sz [.ref a11, .int p1, .int p2]) (QiK D (fun (r : Int32) (u : (Nat → Int32)) => ((0 ≤ p1.toInt ∧ p1.toInt ≤ 5 ∧ (p2.toInt = -1 ∨ (0 ≤ p2.toInt ∧ p2.toInt < v0_count.toInt))) ∧ r.toInt = 1) ∨ (¬ (0 ≤ p1.toInt ∧ p1.toInt ≤ 5 ∧ (p2.toInt = -1 ∨ (0 ≤ p2.toInt ∧ p2.toInt < v0_count.toInt))) ∧ r.toInt = -1)) (fun (u : (Nat → Int32)) => [O11 a11 a7 a5 a3 a2 a6 a4 a10 a9 a1 a0 a8 aN, O0 a0 r0 v0_count v0_ran v0_actor, (cI κ (r0 0) 50 f0_kinds), O8 a8 r8, (cI κ (r8 0) 6 u)]) [O11 a11 a7 a5 a3 a2 a6 a4 a10 a9 a1 a0 a8 aN, O0 a0 r0 v0_count v0_ran v0_actor, (cI κ (r0 0) 50 f0_kinds), O8 a8 r8, (cI κ (r8 0) 6 f8_sorts)] sz) 0 0 (va_A [O11 a11 a7 a5 a3 a2 a6 a4 a10 a9 a1 a0 a8 aN, O0 a0 r0 v0_count v0_ran v0_actor, (cI κ (r0 0) 50 f0_kinds), O8 a8 r8, (cI κ (r8 0) 6 f8_sorts)] sz) := by
  refine ofK_i (cc := cX11_keep) (maxL := 3) (own := RX11) (by decide) rfl rfl (Nat.le_of_ble_eq_true rfl) ?_
  intro p e s m args below meth c Q A ls hsz hx hb hml hts hown hK hA hAB hP hD hl ret
  have hS : va_S A s.heap s.heap [] := va_S.rf
  have hl : lv_has ls 3 [(0, .ref a11), (1, .int p1), (2, .int p2)] := hl
  have w0 := hts (.fieldLink RX11 82 "OlderSkin" "shelves" "LOlderSkin$Shelves;") (List.mem_of_getElem? (i := 1) rfl)
  have w1 := (fun w h => List.mem_cons_of_mem _ (List.mem_append_left _ (List.mem_append_left _ (List.mem_append_right _ h))) : ∀ w ∈ u_ws RX11 TX11 12, w ∈ wsX11_keep)
  have w2 := hts (.fieldLink RX11 75 "OlderSkin" "bodies" "LOlderSkin$Bodies;") (List.mem_of_getElem? (i := 2) rfl)
  have w3 := hts (.fieldLink RX11 420 "OlderSkin$Bodies" "kinds" "[I") (List.mem_of_getElem? (i := 3) rfl)
  have w4 := (fun w h => List.mem_cons_of_mem _ (List.mem_append_left _ (List.mem_append_right _ h)) : ∀ w ∈ u_ws RX0 TX0 5, w ∈ wsX11_keep)
  have l0 : (0 : Int32).toInt = 0 := by decide
  have l1 : ((-1) : Int32).toInt = -1 := by decide
  have l2 : (1 : Int32).toInt = 1 := by decide
  have i1 : 0 ≤ v0_count.toInt ∧ v0_count.toInt ≤ 50 := i1
  refine lv_aload_n hx hb dX11_keep_0 rfl (lv_at hl 0 rfl) ?_
  refine va_get (D := D) (ci := 11) (v := .ref a8) (C := RX11) (T := TX11) (N := 12) hx hb hts w1 hown hK.1 hP 0 rfl rfl 10 (by decide) w0 (fun _ h9 => h9) rfl dX11_keep_1 ?_
  refine lv_iload_n hx hb dX11_keep_4 rfl (lv_at hl 1 rfl) ?_
  refine kcm_i hA hAB hP hD hS [false, false, false, true, true] rfl (fun _ => rfl) (fun hPc hDc => va_runV (As := [.int p1]) (rest := []) ⟨hx, hb, hml, hown, hts⟩ (k_X8_isShelf l D κ β a8 r8 f8_sorts s.heap.size p1) (cwV 1 hts gX11_keep_X8_isShelf rfl rfl rfl (by decide +kernel) ⟨Nat.le_of_ble_eq_true rfl, Nat.le_of_ble_eq_true rfl⟩) (pk_V hK hS hAB hPc hDc 0 (ci := 8) rfl rfl rfl) rfl rfl hl.1 rfl (lv_room (Nat.le_of_ble_eq_true rfl)) dX11_keep_5 ⟨Nat.le_of_ble_eq_true rfl, Nat.le_of_ble_eq_true rfl⟩) (fun x1 u2 H locs hw hPD hS => ?_)
  have h3 : (x1.toInt = 1 ∧ 0 ≤ p1.toInt ∧ p1.toInt ≤ 5) ∨ (x1.toInt = 0 ∧ (p1.toInt < 0 ∨ 5 < p1.toInt)) := hw
  obtain ⟨hP, hD⟩ : PD D A [O11 a11 a7 a5 a3 a2 a6 a4 a10 a9 a1 a0 a8 aN, O0 a0 r0 v0_count v0_ran v0_actor, (cI κ (r0 0) 50 f0_kinds), O8 a8 r8, (cI κ (r8 0) 6 f8_sorts)] H := hPD
  refine lv_if_eq (tgt := 27) hx hb dX11_keep_8 (by decide) (fun c4 => ?_) (fun c4 => ?_)
  · have c4 := ci_eq c4
    refine lv_iconst (v := (-1)) hx hb dX11_keep_27 (by decide) ?_
    have hpo : ((0 ≤ p1.toInt ∧ p1.toInt ≤ 5 ∧ (p2.toInt = -1 ∨ (0 ≤ p2.toInt ∧ p2.toInt < v0_count.toInt))) ∧ ((-1) : Int32).toInt = 1) ∨ (¬ (0 ≤ p1.toInt ∧ p1.toInt ≤ 5 ∧ (p2.toInt = -1 ∨ (0 ≤ p2.toInt ∧ p2.toInt < v0_count.toInt))) ∧ ((-1) : Int32).toInt = -1) := (by omega)
    exact ret _ _ _ _ (-1) f8_sorts dX11_keep_28 hpo hP hD hS
  have c4 := ci_ne c4
  refine lv_iload_n hx hb dX11_keep_11 rfl (lv_at hl 2 rfl) ?_
  refine lv_iconst (v := (-1)) hx hb dX11_keep_12 (by decide) ?_
  refine lv_icmp_eq (tgt := 29) hx hb dX11_keep_13 (by decide) (fun c5 => ?_) (fun c5 => ?_)
  · have c5 := ci_eq c5
    refine lv_iload_n hx hb dX11_keep_29 rfl (lv_at hl 2 rfl) ?_
    refine lv_iconst (v := (-1)) hx hb dX11_keep_30 (by decide) ?_
    refine lv_icmp_ne (tgt := 45) hx hb dX11_keep_31 (by decide) (fun c6 => ?_) (fun c6 => ?_)
    · have c6 := ci_ne c6
      refine lv_aload_n hx hb dX11_keep_45 rfl (lv_at hl 0 rfl) ?_
      refine va_get (D := D) (ci := 11) (v := .ref a8) (C := RX11) (T := TX11) (N := 12) hx hb hts w1 hown hK.1 hP 0 rfl rfl 10 (by decide) w0 (fun _ h9 => h9) rfl dX11_keep_46 ?_
      refine lv_iload_n hx hb dX11_keep_49 rfl (lv_at hl 1 rfl) ?_
      refine lv_aload_n hx hb dX11_keep_50 rfl (lv_at hl 0 rfl) ?_
      refine va_get (D := D) (ci := 11) (v := .ref a0) (C := RX11) (T := TX11) (N := 12) hx hb hts w1 hown hK.1 hP 0 rfl rfl 9 (by decide) w2 (fun _ h9 => h9) rfl dX11_keep_51 ?_
      refine va_get (D := D) (ci := 0) (v := .ref (r0 0)) (C := RX0) (T := TX0) (N := 5) hx hb hts w4 hown hK.1 hP 1 rfl rfl 0 (by decide) w3 (fun _ h9 => h9) rfl dX11_keep_54 ?_
      refine lv_iload_n hx hb dX11_keep_57 rfl (lv_at hl 2 rfl) ?_
      refine va_iald hx hb hK.1 hP 2 1 rfl rfl (i := p2) (ix (by omega) (by omega)) dX11_keep_58 ?_
      refine lv_topi (fun x7 e8 => ?_)
      have h9 : 0 ≤ x7.toInt ∧ x7.toInt ≤ 7 := by rw [e8]; exact hf0_kinds _
      refine kcm_v hA hAB hP hD hS [false, false, false, true, false] rfl (fun _ => rfl) (fun hPc hDc => va_runV (As := [.int p1, .int x7]) (rest := []) ⟨hx, hb, hml, hown, hts⟩ (k_X8_layBody l D κ β a8 r8 H.size p1 x7 (by omega)) (cwV 2 hts gX11_keep_X8_layBody rfl rfl rfl (by decide +kernel) ⟨Nat.le_of_ble_eq_true rfl, Nat.le_of_ble_eq_true rfl⟩) (pk_V hK hS hAB hPc hDc 0 (ci := 8) rfl rfl rfl) rfl rfl hl.1 rfl (lv_room (Nat.le_of_ble_eq_true rfl)) dX11_keep_59 ⟨Nat.le_of_ble_eq_true rfl, Nat.le_of_ble_eq_true rfl⟩) (fun u10 H locs hw hPD hS => ?_)
      obtain ⟨hP, hD⟩ : PD D A [O11 a11 a7 a5 a3 a2 a6 a4 a10 a9 a1 a0 a8 aN, O0 a0 r0 v0_count v0_ran v0_actor, (cI κ (r0 0) 50 f0_kinds), O8 a8 r8, (cI κ (r8 0) 6 f8_sorts)] H := hPD
      refine lv_iconst (v := 1) hx hb dX11_keep_62 (by decide) ?_
      have hpo : ((0 ≤ p1.toInt ∧ p1.toInt ≤ 5 ∧ (p2.toInt = -1 ∨ (0 ≤ p2.toInt ∧ p2.toInt < v0_count.toInt))) ∧ (1 : Int32).toInt = 1) ∨ (¬ (0 ≤ p1.toInt ∧ p1.toInt ≤ 5 ∧ (p2.toInt = -1 ∨ (0 ≤ p2.toInt ∧ p2.toInt < v0_count.toInt))) ∧ (1 : Int32).toInt = -1) := (by omega)
      exact ret _ _ _ _ 1 f8_sorts dX11_keep_63 hpo hP hD hS
    have c6 := ci_eq c6
    refine lv_aload_n hx hb dX11_keep_34 rfl (lv_at hl 0 rfl) ?_
    refine va_get (D := D) (ci := 11) (v := .ref a8) (C := RX11) (T := TX11) (N := 12) hx hb hts w1 hown hK.1 hP 0 rfl rfl 10 (by decide) w0 (fun _ h9 => h9) rfl dX11_keep_35 ?_
    refine lv_iload_n hx hb dX11_keep_38 rfl (lv_at hl 1 rfl) ?_
    refine kcm_v hA hAB hP hD hS [false, false, false, true, true] rfl (fun _ => rfl) (fun hPc hDc => va_runV (As := [.int p1]) (rest := []) ⟨hx, hb, hml, hown, hts⟩ (k_X8_clear l D κ β a8 r8 f8_sorts H.size p1 (by omega)) (cwV 1 hts gX11_keep_X8_clear rfl rfl rfl (by decide +kernel) ⟨Nat.le_of_ble_eq_true rfl, Nat.le_of_ble_eq_true rfl⟩) (pk_V hK hS hAB hPc hDc 0 (ci := 8) rfl rfl rfl) rfl rfl hl.1 rfl (lv_room (Nat.le_of_ble_eq_true rfl)) dX11_keep_39 ⟨Nat.le_of_ble_eq_true rfl, Nat.le_of_ble_eq_true rfl⟩) (fun g11 H locs hw hPD hS => ?_)
    obtain ⟨hP, hD⟩ : PD D A [O11 a11 a7 a5 a3 a2 a6 a4 a10 a9 a1 a0 a8 aN, O0 a0 r0 v0_count v0_ran v0_actor, (cI κ (r0 0) 50 f0_kinds), O8 a8 r8, (cI κ (r8 0) 6 g11)] H := hPD
    refine lv_goto (tgt := 62) hx hb dX11_keep_42 (by decide) ?_
    refine lv_iconst (v := 1) hx hb dX11_keep_62 (by decide) ?_
    have hpo : ((0 ≤ p1.toInt ∧ p1.toInt ≤ 5 ∧ (p2.toInt = -1 ∨ (0 ≤ p2.toInt ∧ p2.toInt < v0_count.toInt))) ∧ (1 : Int32).toInt = 1) ∨ (¬ (0 ≤ p1.toInt ∧ p1.toInt ≤ 5 ∧ (p2.toInt = -1 ∨ (0 ≤ p2.toInt ∧ p2.toInt < v0_count.toInt))) ∧ (1 : Int32).toInt = -1) := (by omega)
    exact ret _ _ _ _ 1 g11 dX11_keep_63 hpo hP hD hS
  have c5 := ci_ne c5
  refine lv_aload_n hx hb dX11_keep_16 rfl (lv_at hl 0 rfl) ?_
  refine va_get (D := D) (ci := 11) (v := .ref a0) (C := RX11) (T := TX11) (N := 12) hx hb hts w1 hown hK.1 hP 0 rfl rfl 9 (by decide) w2 (fun _ h9 => h9) rfl dX11_keep_17 ?_
  refine lv_iload_n hx hb dX11_keep_20 rfl (lv_at hl 2 rfl) ?_
  refine kcm_i hA hAB hP hD hS [false, true, false, false, false] rfl (fun _ => rfl) (fun hPc hDc => va_runV (As := [.int p2]) (rest := []) ⟨hx, hb, hml, hown, hts⟩ (k_X0_isBody l D κ β a0 r0 v0_count v0_ran v0_actor H.size p2 i1 i2 i3 (by omega)) (cwV 1 hts gX11_keep_X0_isBody rfl rfl rfl (by decide +kernel) ⟨Nat.le_of_ble_eq_true rfl, Nat.le_of_ble_eq_true rfl⟩) (pk_V hK hS hAB hPc hDc 0 (ci := 0) rfl rfl rfl) rfl rfl hl.1 rfl (lv_room (Nat.le_of_ble_eq_true rfl)) dX11_keep_21 ⟨Nat.le_of_ble_eq_true rfl, Nat.le_of_ble_eq_true rfl⟩) (fun x12 u13 H locs hw hPD hS => ?_)
  have h14 : (x12.toInt = 1 ∧ 0 ≤ p2.toInt ∧ p2.toInt < v0_count.toInt) ∨ (x12.toInt = 0 ∧ (p2.toInt < 0 ∨ v0_count.toInt ≤ p2.toInt)) := hw
  obtain ⟨hP, hD⟩ : PD D A [O11 a11 a7 a5 a3 a2 a6 a4 a10 a9 a1 a0 a8 aN, O0 a0 r0 v0_count v0_ran v0_actor, (cI κ (r0 0) 50 f0_kinds), O8 a8 r8, (cI κ (r8 0) 6 f8_sorts)] H := hPD
  refine lv_if_ne (tgt := 29) hx hb dX11_keep_24 (by decide) (fun c15 => ?_) (fun c15 => ?_)
  · have c15 := ci_ne c15
    exfalso
    omega
  have c15 := ci_eq c15
  refine lv_iconst (v := (-1)) hx hb dX11_keep_27 (by decide) ?_
  have hpo : ((0 ≤ p1.toInt ∧ p1.toInt ≤ 5 ∧ (p2.toInt = -1 ∨ (0 ≤ p2.toInt ∧ p2.toInt < v0_count.toInt))) ∧ ((-1) : Int32).toInt = 1) ∨ (¬ (0 ≤ p1.toInt ∧ p1.toInt ≤ 5 ∧ (p2.toInt = -1 ∨ (0 ≤ p2.toInt ∧ p2.toInt < v0_count.toInt))) ∧ ((-1) : Int32).toInt = -1) := (by omega)
  exact ret _ _ _ _ (-1) f8_sorts dX11_keep_28 hpo hP hD hS
set_option maxHeartbeats 4000000 in
set_option maxRecDepth 100000 in
theorem k_X11_row (l : Launch) (D : va_G) (κ : Nat → ClassId) (β : Nat) (a11 : Nat) (a7 : Nat) (a5 : Nat) (a3 : Nat) (a2 : Nat) (a6 : Nat) (a4 : Nat) (a10 : Nat) (a9 : Nat) (a1 : Nat) (a0 : Nat) (a8 : Nat) (aN : Nat) (r8 : Nat → Nat) (f8_sorts : Nat → Int32) (f8_lengths : Nat → Int32) (g8 : Nat → Nat) (F8 : Nat → Nat → Int64) (sz : Nat) (p1 : Int32) (p2 : Int32) (p3 : Int32) (hf8_lengths : ∀ j : Nat, 0 ≤ (f8_lengths j).toInt ∧ (f8_lengths j).toInt ≤ 60) : Met l yX11_row wsX11_row ({ frames := 2, cells := 0, slots := 0, locals := 47 } : Room) (PcK D κ β [O11 a11 a7 a5 a3 a2 a6 a4 a10 a9 a1 a0 a8 aN, O8 a8 r8, (cI κ (r8 0) 6 f8_sorts), (cI κ (r8 1) 6 f8_lengths), (cRJ κ (r8 3) 6 (fun i => some (g8 i))), (cJ κ (g8 0) 60 (F8 0)), (cJ κ (g8 1) 60 (F8 1)), (cJ κ (g8 2) 60 (F8 2)), (cJ κ (g8 3) 60 (F8 3)), (cJ κ (g8 4) 60 (F8 4)), (cJ κ (g8 5) 60 (F8 5))] sz [.ref a11, .int p1, .int p2, .int p3]) (QiK D (fun (r : Int32) (u : (Nat → Int32) × (Nat → Int32) × (Nat → Nat → Int64)) => (∀ j : Nat, 0 ≤ (u.2.1 j).toInt ∧ (u.2.1 j).toInt ≤ 60) ∧ ((¬ (0 ≤ p1.toInt ∧ p1.toInt ≤ 5 ∧ 0 ≤ p2.toInt ∧ p2.toInt ≤ 4 ∧ p3.toInt ≤ 60) ∧ r.toInt = -1) ∨ ((0 ≤ p1.toInt ∧ p1.toInt ≤ 5 ∧ 0 ≤ p2.toInt ∧ p2.toInt ≤ 4 ∧ p3.toInt ≤ 60) ∧ p3.toInt < 0 ∧ r.toInt = -14) ∨ ((0 ≤ p1.toInt ∧ p1.toInt ≤ 5 ∧ 0 ≤ p2.toInt ∧ p2.toInt ≤ 4 ∧ p3.toInt ≤ 60) ∧ 0 ≤ p3.toInt ∧ r.toInt = 1))) (fun (u : (Nat → Int32) × (Nat → Int32) × (Nat → Nat → Int64)) => [O11 a11 a7 a5 a3 a2 a6 a4 a10 a9 a1 a0 a8 aN, O8 a8 r8, (cI κ (r8 0) 6 u.1), (cI κ (r8 1) 6 u.2.1), (cRJ κ (r8 3) 6 (fun i => some (g8 i))), (cJ κ (g8 0) 60 (u.2.2 0)), (cJ κ (g8 1) 60 (u.2.2 1)), (cJ κ (g8 2) 60 (u.2.2 2)), (cJ κ (g8 3) 60 (u.2.2 3)), (cJ κ (g8 4) 60 (u.2.2 4)), (cJ κ (g8 5) 60 (u.2.2 5))]) [O11 a11 a7 a5 a3 a2 a6 a4 a10 a9 a1 a0 a8 aN, O8 a8 r8, (cI κ (r8 0) 6 f8_sorts), (cI κ (r8 1) 6 f8_lengths), (cRJ κ (r8 3) 6 (fun i => some (g8 i))), (cJ κ (g8 0) 60 (F8 0)), (cJ κ (g8 1) 60 (F8 1)), (cJ κ (g8 2) 60 (F8 2)), (cJ κ (g8 3) 60 (F8 3)), (cJ κ (g8 4) 60 (F8 4)), (cJ κ (g8 5) 60 (F8 5))] sz) 0 0 (va_A [O11 a11 a7 a5 a3 a2 a6 a4 a10 a9 a1 a0 a8 aN, O8 a8 r8, (cI κ (r8 0) 6 f8_sorts), (cI κ (r8 1) 6 f8_lengths), (cRJ κ (r8 3) 6 (fun i => some (g8 i))), (cJ κ (g8 0) 60 (F8 0)), (cJ κ (g8 1) 60 (F8 1)), (cJ κ (g8 2) 60 (F8 2)), (cJ κ (g8 3) 60 (F8 3)), (cJ κ (g8 4) 60 (F8 4)), (cJ κ (g8 5) 60 (F8 5))] sz) := by
  refine ofK_i (cc := cX11_row) (maxL := 4) (own := RX11) (by decide) rfl rfl (Nat.le_of_ble_eq_true rfl) ?_
  intro p e s m args below meth c Q A ls hsz hx hb hml hts hown hK hA hAB hP hD hl ret
  have hS : va_S A s.heap s.heap [] := va_S.rf
  have hl : lv_has ls 4 [(0, .ref a11), (1, .int p1), (2, .int p2), (3, .int p3)] := hl
  have w0 := hts (.fieldLink RX11 82 "OlderSkin" "shelves" "LOlderSkin$Shelves;") (List.mem_of_getElem? (i := 1) rfl)
  have w1 := (fun w h => List.mem_cons_of_mem _ (List.mem_append_left _ (List.mem_append_right _ h)) : ∀ w ∈ u_ws RX11 TX11 12, w ∈ wsX11_row)
  have l0 : (0 : Int32).toInt = 0 := by decide
  have l1 : ((-1) : Int32).toInt = -1 := by decide
  have l2 : (4 : Int32).toInt = 4 := by decide
  have l3 : (60 : Int32).toInt = 60 := by decide
  have l4 : (1 : Int32).toInt = 1 := by decide
  have l5 : ((-14) : Int32).toInt = -14 := by decide
  refine lv_aload_n hx hb dX11_row_0 rfl (lv_at hl 0 rfl) ?_
  refine va_get (D := D) (ci := 11) (v := .ref a8) (C := RX11) (T := TX11) (N := 12) hx hb hts w1 hown hK.1 hP 0 rfl rfl 10 (by decide) w0 (fun _ h9 => h9) rfl dX11_row_1 ?_
  refine lv_iload_n hx hb dX11_row_4 rfl (lv_at hl 1 rfl) ?_
  refine kcm_i hA hAB hP hD hS [false, true, true, false, false, false, false, false, false, false, false] rfl (fun _ => rfl) (fun hPc hDc => va_runV (As := [.int p1]) (rest := []) ⟨hx, hb, hml, hown, hts⟩ (k_X8_isShelf l D κ β a8 r8 f8_sorts s.heap.size p1) (cwV 1 hts gX11_row_X8_isShelf rfl rfl rfl (by decide +kernel) ⟨Nat.le_of_ble_eq_true rfl, Nat.le_of_ble_eq_true rfl⟩) (pk_V hK hS hAB hPc hDc 0 (ci := 8) rfl rfl rfl) rfl rfl hl.1 rfl (lv_room (Nat.le_of_ble_eq_true rfl)) dX11_row_5 ⟨Nat.le_of_ble_eq_true rfl, Nat.le_of_ble_eq_true rfl⟩) (fun x1 u2 H locs hw hPD hS => ?_)
  have h3 : (x1.toInt = 1 ∧ 0 ≤ p1.toInt ∧ p1.toInt ≤ 5) ∨ (x1.toInt = 0 ∧ (p1.toInt < 0 ∨ 5 < p1.toInt)) := hw
  obtain ⟨hP, hD⟩ : PD D A [O11 a11 a7 a5 a3 a2 a6 a4 a10 a9 a1 a0 a8 aN, O8 a8 r8, (cI κ (r8 0) 6 f8_sorts), (cI κ (r8 1) 6 f8_lengths), (cRJ κ (r8 3) 6 (fun i => some (g8 i))), (cJ κ (g8 0) 60 (F8 0)), (cJ κ (g8 1) 60 (F8 1)), (cJ κ (g8 2) 60 (F8 2)), (cJ κ (g8 3) 60 (F8 3)), (cJ κ (g8 4) 60 (F8 4)), (cJ κ (g8 5) 60 (F8 5))] H := hPD
  refine lv_if_eq (tgt := 26) hx hb dX11_row_8 (by decide) (fun c4 => ?_) (fun c4 => ?_)
  · have c4 := ci_eq c4
    refine lv_iconst (v := (-1)) hx hb dX11_row_26 (by decide) ?_
    have hpo : (∀ j : Nat, 0 ≤ (f8_lengths j).toInt ∧ (f8_lengths j).toInt ≤ 60) ∧ ((¬ (0 ≤ p1.toInt ∧ p1.toInt ≤ 5 ∧ 0 ≤ p2.toInt ∧ p2.toInt ≤ 4 ∧ p3.toInt ≤ 60) ∧ ((-1) : Int32).toInt = -1) ∨ ((0 ≤ p1.toInt ∧ p1.toInt ≤ 5 ∧ 0 ≤ p2.toInt ∧ p2.toInt ≤ 4 ∧ p3.toInt ≤ 60) ∧ p3.toInt < 0 ∧ ((-1) : Int32).toInt = -14) ∨ ((0 ≤ p1.toInt ∧ p1.toInt ≤ 5 ∧ 0 ≤ p2.toInt ∧ p2.toInt ≤ 4 ∧ p3.toInt ≤ 60) ∧ 0 ≤ p3.toInt ∧ ((-1) : Int32).toInt = 1)) := ⟨hf8_lengths, (by omega)⟩
    exact ret _ _ _ _ (-1) (f8_sorts, f8_lengths, F8) dX11_row_27 hpo hP hD hS
  have c4 := ci_ne c4
  refine lv_iload_n hx hb dX11_row_11 rfl (lv_at hl 2 rfl) ?_
  refine lv_iconst (v := 0) hx hb dX11_row_12 (by decide) ?_
  refine lv_iconst (v := 4) hx hb dX11_row_13 (by decide) ?_
  refine kcm_i hA hAB hP hD hS [false, false, false, false, false, false, false, false, false, false, false] rfl (fun _ => rfl) (fun hPc hDc => va_runS (As := [.int p2, .int 0, .int 4]) (rest := []) ⟨hx, hb, hml, hown, hts⟩ (k_X11_within l D κ β H.size p2 0 4) (va_cwS 3 hts gX11_row_X11_within rfl rfl rfl (by decide +kernel) ⟨Nat.le_of_ble_eq_true rfl, Nat.le_of_ble_eq_true rfl⟩) (pk_S hK hS hAB hPc hDc) rfl rfl hl.1 rfl (lv_room (Nat.le_of_ble_eq_true rfl)) dX11_row_14 ⟨Nat.le_of_ble_eq_true rfl, Nat.le_of_ble_eq_true rfl⟩) (fun x5 u6 H locs hw hPD hS => ?_)
  have h7 : (x5.toInt = 1 ∧ (0 : Int32).toInt ≤ p2.toInt ∧ p2.toInt ≤ (4 : Int32).toInt) ∨ (x5.toInt = 0 ∧ (p2.toInt < (0 : Int32).toInt ∨ (4 : Int32).toInt < p2.toInt)) := hw
  obtain ⟨hP, hD⟩ : PD D A [O11 a11 a7 a5 a3 a2 a6 a4 a10 a9 a1 a0 a8 aN, O8 a8 r8, (cI κ (r8 0) 6 f8_sorts), (cI κ (r8 1) 6 f8_lengths), (cRJ κ (r8 3) 6 (fun i => some (g8 i))), (cJ κ (g8 0) 60 (F8 0)), (cJ κ (g8 1) 60 (F8 1)), (cJ κ (g8 2) 60 (F8 2)), (cJ κ (g8 3) 60 (F8 3)), (cJ κ (g8 4) 60 (F8 4)), (cJ κ (g8 5) 60 (F8 5))] H := hPD
  refine lv_if_eq (tgt := 26) hx hb dX11_row_17 (by decide) (fun c8 => ?_) (fun c8 => ?_)
  · have c8 := ci_eq c8
    refine lv_iconst (v := (-1)) hx hb dX11_row_26 (by decide) ?_
    have hpo : (∀ j : Nat, 0 ≤ (f8_lengths j).toInt ∧ (f8_lengths j).toInt ≤ 60) ∧ ((¬ (0 ≤ p1.toInt ∧ p1.toInt ≤ 5 ∧ 0 ≤ p2.toInt ∧ p2.toInt ≤ 4 ∧ p3.toInt ≤ 60) ∧ ((-1) : Int32).toInt = -1) ∨ ((0 ≤ p1.toInt ∧ p1.toInt ≤ 5 ∧ 0 ≤ p2.toInt ∧ p2.toInt ≤ 4 ∧ p3.toInt ≤ 60) ∧ p3.toInt < 0 ∧ ((-1) : Int32).toInt = -14) ∨ ((0 ≤ p1.toInt ∧ p1.toInt ≤ 5 ∧ 0 ≤ p2.toInt ∧ p2.toInt ≤ 4 ∧ p3.toInt ≤ 60) ∧ 0 ≤ p3.toInt ∧ ((-1) : Int32).toInt = 1)) := ⟨hf8_lengths, (by omega)⟩
    exact ret _ _ _ _ (-1) (f8_sorts, f8_lengths, F8) dX11_row_27 hpo hP hD hS
  have c8 := ci_ne c8
  refine lv_iload_n hx hb dX11_row_20 rfl (lv_at hl 3 rfl) ?_
  refine lv_bipush (v := 60) hx hb dX11_row_21 (by decide) ?_
  refine lv_icmp_le (tgt := 28) hx hb dX11_row_23 (by decide) (fun c9 => ?_) (fun c9 => ?_)
  · have c9 := ci_le c9
    refine lv_iload_n hx hb dX11_row_28 rfl (lv_at hl 3 rfl) ?_
    refine lv_if_ge (tgt := 35) hx hb dX11_row_29 (by decide) (fun c10 => ?_) (fun c10 => ?_)
    · have c10 := ci_le c10
      refine lv_aload_n hx hb dX11_row_35 rfl (lv_at hl 0 rfl) ?_
      refine va_get (D := D) (ci := 11) (v := .ref a8) (C := RX11) (T := TX11) (N := 12) hx hb hts w1 hown hK.1 hP 0 rfl rfl 10 (by decide) w0 (fun _ h9 => h9) rfl dX11_row_36 ?_
      refine lv_iload_n hx hb dX11_row_39 rfl (lv_at hl 1 rfl) ?_
      refine lv_iload_n hx hb dX11_row_40 rfl (lv_at hl 2 rfl) ?_
      refine lv_iload_n hx hb dX11_row_41 rfl (lv_at hl 3 rfl) ?_
      refine kcm_v hA hAB hP hD hS [false, true, true, true, true, true, true, true, true, true, true] rfl (fun _ => rfl) (fun hPc hDc => va_runV (As := [.int p1, .int p2, .int p3]) (rest := []) ⟨hx, hb, hml, hown, hts⟩ (k_X8_layRow l D κ β a8 r8 f8_sorts f8_lengths g8 F8 H.size p1 p2 p3 hf8_lengths (by omega) (by omega)) (cwV 3 hts gX11_row_X8_layRow rfl rfl rfl (by decide +kernel) ⟨Nat.le_of_ble_eq_true rfl, Nat.le_of_ble_eq_true rfl⟩) (pk_V hK hS hAB hPc hDc 0 (ci := 8) rfl rfl rfl) rfl rfl hl.1 rfl (lv_room (Nat.le_of_ble_eq_true rfl)) dX11_row_42 ⟨Nat.le_of_ble_eq_true rfl, Nat.le_of_ble_eq_true rfl⟩) (fun u14 H locs hw hPD hS => ?_)
      obtain ⟨g11, g12, g13⟩ := u14
      have h15 : ∀ j : Nat, 0 ≤ (g12 j).toInt ∧ (g12 j).toInt ≤ 60 := hw
      obtain ⟨hP, hD⟩ : PD D A [O11 a11 a7 a5 a3 a2 a6 a4 a10 a9 a1 a0 a8 aN, O8 a8 r8, (cI κ (r8 0) 6 g11), (cI κ (r8 1) 6 g12), (cRJ κ (r8 3) 6 (fun i => some (g8 i))), (cJ κ (g8 0) 60 (g13 0)), (cJ κ (g8 1) 60 (g13 1)), (cJ κ (g8 2) 60 (g13 2)), (cJ κ (g8 3) 60 (g13 3)), (cJ κ (g8 4) 60 (g13 4)), (cJ κ (g8 5) 60 (g13 5))] H := hPD
      refine lv_iconst (v := 1) hx hb dX11_row_45 (by decide) ?_
      have hpo : (∀ j : Nat, 0 ≤ (g12 j).toInt ∧ (g12 j).toInt ≤ 60) ∧ ((¬ (0 ≤ p1.toInt ∧ p1.toInt ≤ 5 ∧ 0 ≤ p2.toInt ∧ p2.toInt ≤ 4 ∧ p3.toInt ≤ 60) ∧ (1 : Int32).toInt = -1) ∨ ((0 ≤ p1.toInt ∧ p1.toInt ≤ 5 ∧ 0 ≤ p2.toInt ∧ p2.toInt ≤ 4 ∧ p3.toInt ≤ 60) ∧ p3.toInt < 0 ∧ (1 : Int32).toInt = -14) ∨ ((0 ≤ p1.toInt ∧ p1.toInt ≤ 5 ∧ 0 ≤ p2.toInt ∧ p2.toInt ≤ 4 ∧ p3.toInt ≤ 60) ∧ 0 ≤ p3.toInt ∧ (1 : Int32).toInt = 1)) := ⟨h15, (by omega)⟩
      exact ret _ _ _ _ 1 (g11, g12, g13) dX11_row_46 hpo hP hD hS
    have c10 := ci_nle c10
    refine lv_bipush (v := (-14)) hx hb dX11_row_32 (by decide) ?_
    have hpo : (∀ j : Nat, 0 ≤ (f8_lengths j).toInt ∧ (f8_lengths j).toInt ≤ 60) ∧ ((¬ (0 ≤ p1.toInt ∧ p1.toInt ≤ 5 ∧ 0 ≤ p2.toInt ∧ p2.toInt ≤ 4 ∧ p3.toInt ≤ 60) ∧ ((-14) : Int32).toInt = -1) ∨ ((0 ≤ p1.toInt ∧ p1.toInt ≤ 5 ∧ 0 ≤ p2.toInt ∧ p2.toInt ≤ 4 ∧ p3.toInt ≤ 60) ∧ p3.toInt < 0 ∧ ((-14) : Int32).toInt = -14) ∨ ((0 ≤ p1.toInt ∧ p1.toInt ≤ 5 ∧ 0 ≤ p2.toInt ∧ p2.toInt ≤ 4 ∧ p3.toInt ≤ 60) ∧ 0 ≤ p3.toInt ∧ ((-14) : Int32).toInt = 1)) := ⟨hf8_lengths, (by omega)⟩
    exact ret _ _ _ _ (-14) (f8_sorts, f8_lengths, F8) dX11_row_34 hpo hP hD hS
  have c9 := ci_nle c9
  refine lv_iconst (v := (-1)) hx hb dX11_row_26 (by decide) ?_
  have hpo : (∀ j : Nat, 0 ≤ (f8_lengths j).toInt ∧ (f8_lengths j).toInt ≤ 60) ∧ ((¬ (0 ≤ p1.toInt ∧ p1.toInt ≤ 5 ∧ 0 ≤ p2.toInt ∧ p2.toInt ≤ 4 ∧ p3.toInt ≤ 60) ∧ ((-1) : Int32).toInt = -1) ∨ ((0 ≤ p1.toInt ∧ p1.toInt ≤ 5 ∧ 0 ≤ p2.toInt ∧ p2.toInt ≤ 4 ∧ p3.toInt ≤ 60) ∧ p3.toInt < 0 ∧ ((-1) : Int32).toInt = -14) ∨ ((0 ≤ p1.toInt ∧ p1.toInt ≤ 5 ∧ 0 ≤ p2.toInt ∧ p2.toInt ≤ 4 ∧ p3.toInt ≤ 60) ∧ 0 ≤ p3.toInt ∧ ((-1) : Int32).toInt = 1)) := ⟨hf8_lengths, (by omega)⟩
  exact ret _ _ _ _ (-1) (f8_sorts, f8_lengths, F8) dX11_row_27 hpo hP hD hS
set_option maxHeartbeats 4000000 in
set_option maxRecDepth 100000 in
theorem k_X11_put (l : Launch) (D : va_G) (κ : Nat → ClassId) (β : Nat) (a11 : Nat) (a7 : Nat) (a5 : Nat) (a3 : Nat) (a2 : Nat) (a6 : Nat) (a4 : Nat) (a10 : Nat) (a9 : Nat) (a1 : Nat) (a0 : Nat) (a8 : Nat) (aN : Nat) (r8 : Nat → Nat) (f8_sorts : Nat → Int32) (sz : Nat) (p1 : Int32) (p2 : Int32) (p3 : Int64) (i1 : p1.toInt < 0 ∨ 5 < p1.toInt ∨ (f8_sorts p1.toNatClampNeg).toInt = -1) : Met l yX11_put wsX11_put ({ frames := 3, cells := 0, slots := 0, locals := 65 } : Room) (PcK D κ β [O11 a11 a7 a5 a3 a2 a6 a4 a10 a9 a1 a0 a8 aN, O8 a8 r8, (cI κ (r8 0) 6 f8_sorts)] sz [.ref a11, .int p1, .int p2, .long p3]) (QiK D (fun (r : Int32) (u : Unit) => ((0 ≤ p1.toInt ∧ p1.toInt ≤ 5) ∧ r.toInt = -11) ∨ (¬ (0 ≤ p1.toInt ∧ p1.toInt ≤ 5) ∧ r.toInt = -1)) (fun (u : Unit) => [O11 a11 a7 a5 a3 a2 a6 a4 a10 a9 a1 a0 a8 aN, O8 a8 r8, (cI κ (r8 0) 6 f8_sorts)]) [O11 a11 a7 a5 a3 a2 a6 a4 a10 a9 a1 a0 a8 aN, O8 a8 r8, (cI κ (r8 0) 6 f8_sorts)] sz) 0 0 (va_A [O11 a11 a7 a5 a3 a2 a6 a4 a10 a9 a1 a0 a8 aN, O8 a8 r8, (cI κ (r8 0) 6 f8_sorts)] sz) := by
  refine ofK_i (cc := cX11_put) (maxL := 6) (own := RX11) (by decide) rfl rfl (Nat.le_of_ble_eq_true rfl) ?_
  intro p e s m args below meth c Q A ls hsz hx hb hml hts hown hK hA hAB hP hD hl ret
  have hS : va_S A s.heap s.heap [] := va_S.rf
  have hl : lv_has ls 6 [(0, .ref a11), (1, .int p1), (2, .int p2), (3, .long p3)] := hl
  have w0 := hts (.fieldLink RX11 82 "OlderSkin" "shelves" "LOlderSkin$Shelves;") (List.mem_of_getElem? (i := 1) rfl)
  have w1 := (fun w h => List.mem_cons_of_mem _ (List.mem_append_left _ (List.mem_append_right _ h)) : ∀ w ∈ u_ws RX11 TX11 12, w ∈ wsX11_put)
  have l0 : (0 : Int32).toInt = 0 := by decide
  refine lv_aload_n hx hb dX11_put_0 rfl (lv_at hl 0 rfl) ?_
  refine va_get (D := D) (ci := 11) (v := .ref a8) (C := RX11) (T := TX11) (N := 12) hx hb hts w1 hown hK.1 hP 0 rfl rfl 10 (by decide) w0 (fun _ h9 => h9) rfl dX11_put_1 ?_
  refine lv_iload_n hx hb dX11_put_4 rfl (lv_at hl 1 rfl) ?_
  refine lv_iload_n hx hb dX11_put_5 rfl (lv_at hl 2 rfl) ?_
  refine kcm_i hA hAB hP hD hS [false, true, true] rfl (fun _ => rfl) (fun hPc hDc => va_runV (As := [.int p1, .int p2]) (rest := []) ⟨hx, hb, hml, hown, hts⟩ (k_X8_refusal l D κ β a8 r8 f8_sorts s.heap.size p1 p2 (by omega)) (cwV 2 hts gX11_put_X8_refusal rfl rfl rfl (by decide +kernel) ⟨Nat.le_of_ble_eq_true rfl, Nat.le_of_ble_eq_true rfl⟩) (pk_V hK hS hAB hPc hDc 0 (ci := 8) rfl rfl rfl) rfl rfl hl.1 rfl (lv_room (Nat.le_of_ble_eq_true rfl)) dX11_put_6 ⟨Nat.le_of_ble_eq_true rfl, Nat.le_of_ble_eq_true rfl⟩) (fun x1 u2 H locs hw hPD hS => ?_)
  obtain ⟨h3, h4⟩ : (x1.toInt ≠ 0 ∨ (0 ≤ p1.toInt ∧ p1.toInt ≤ 5 ∧ 0 ≤ p2.toInt ∧ p2.toInt ≤ 59)) ∧ (((0 ≤ p1.toInt ∧ p1.toInt ≤ 5) ∧ x1.toInt = -11) ∨ (¬ (0 ≤ p1.toInt ∧ p1.toInt ≤ 5) ∧ x1.toInt = -1)) := hw
  obtain ⟨hP, hD⟩ : PD D A [O11 a11 a7 a5 a3 a2 a6 a4 a10 a9 a1 a0 a8 aN, O8 a8 r8, (cI κ (r8 0) 6 f8_sorts)] H := hPD
  refine lv_istore (lv' := [(5, .int x1), (0, .ref a11), (1, .int p1), (2, .int p2), (3, .long p3)]) hx hb dX11_put_9 hl (by decide) rfl (fun ls hl => ?_)
  refine lv_iload hx hb dX11_put_11 (lv_at hl 0 rfl) ?_
  refine lv_if_eq (tgt := 19) hx hb dX11_put_13 (by decide) (fun c5 => ?_) (fun c5 => ?_)
  · have c5 := ci_eq c5
    exfalso
    omega
  have c5 := ci_ne c5
  refine lv_iload hx hb dX11_put_16 (lv_at hl 0 rfl) ?_
  have hpo : ((0 ≤ p1.toInt ∧ p1.toInt ≤ 5) ∧ x1.toInt = -11) ∨ (¬ (0 ≤ p1.toInt ∧ p1.toInt ≤ 5) ∧ x1.toInt = -1) := (by omega)
  exact ret _ _ _ _ x1 () dX11_put_18 hpo hP hD hS
set_option maxHeartbeats 4000000 in
set_option maxRecDepth 100000 in
theorem k_X11_element (l : Launch) (D : va_G) (κ : Nat → ClassId) (β : Nat) (a11 : Nat) (a7 : Nat) (a5 : Nat) (a3 : Nat) (a2 : Nat) (a6 : Nat) (a4 : Nat) (a10 : Nat) (a9 : Nat) (a1 : Nat) (a0 : Nat) (a8 : Nat) (aN : Nat) (r8 : Nat → Nat) (f8_sorts : Nat → Int32) (sz : Nat) (p1 : Int32) (p2 : Int32) (i1 : p1.toInt < 0 ∨ 5 < p1.toInt ∨ (f8_sorts p1.toNatClampNeg).toInt = -1) : Met l yX11_element wsX11_element ({ frames := 3, cells := 0, slots := 0, locals := 65 } : Room) (PcK D κ β [O11 a11 a7 a5 a3 a2 a6 a4 a10 a9 a1 a0 a8 aN, O8 a8 r8, (cI κ (r8 0) 6 f8_sorts)] sz [.ref a11, .int p1, .int p2]) (QlK D (fun (r : Int64) (u : Unit) => r.toInt = (-9223372036854775808)) (fun (u : Unit) => [O11 a11 a7 a5 a3 a2 a6 a4 a10 a9 a1 a0 a8 aN, O8 a8 r8, (cI κ (r8 0) 6 f8_sorts)]) [O11 a11 a7 a5 a3 a2 a6 a4 a10 a9 a1 a0 a8 aN, O8 a8 r8, (cI κ (r8 0) 6 f8_sorts)] sz) 0 0 (va_A [O11 a11 a7 a5 a3 a2 a6 a4 a10 a9 a1 a0 a8 aN, O8 a8 r8, (cI κ (r8 0) 6 f8_sorts)] sz) := by
  refine ofK_l (cc := cX11_element) (maxL := 3) (own := RX11) (by decide) rfl rfl (Nat.le_of_ble_eq_true rfl) ?_
  intro p e s m args below meth c Q A ls hsz hx hb hml hts hown hK hA hAB hP hD hl ret
  have hS : va_S A s.heap s.heap [] := va_S.rf
  have hl : lv_has ls 3 [(0, .ref a11), (1, .int p1), (2, .int p2)] := hl
  have w0 := hts (.fieldLink RX11 82 "OlderSkin" "shelves" "LOlderSkin$Shelves;") (List.mem_of_getElem? (i := 1) rfl)
  have w1 := (fun w h => List.mem_cons_of_mem _ (List.mem_append_left _ (List.mem_append_right _ h)) : ∀ w ∈ u_ws RX11 TX11 12, w ∈ wsX11_element)
  have w2 := hts (.constantLong RX11 439 (-9223372036854775808)) (List.mem_of_getElem? (i := 2) rfl)
  have l0 : (0 : Int32).toInt = 0 := by decide
  have l1 : ((-9223372036854775808) : Int64).toInt = -9223372036854775808 := by decide
  refine lv_aload_n hx hb dX11_element_0 rfl (lv_at hl 0 rfl) ?_
  refine va_get (D := D) (ci := 11) (v := .ref a8) (C := RX11) (T := TX11) (N := 12) hx hb hts w1 hown hK.1 hP 0 rfl rfl 10 (by decide) w0 (fun _ h9 => h9) rfl dX11_element_1 ?_
  refine lv_iload_n hx hb dX11_element_4 rfl (lv_at hl 1 rfl) ?_
  refine lv_iload_n hx hb dX11_element_5 rfl (lv_at hl 2 rfl) ?_
  refine kcm_i hA hAB hP hD hS [false, true, true] rfl (fun _ => rfl) (fun hPc hDc => va_runV (As := [.int p1, .int p2]) (rest := []) ⟨hx, hb, hml, hown, hts⟩ (k_X8_refusal l D κ β a8 r8 f8_sorts s.heap.size p1 p2 (by omega)) (cwV 2 hts gX11_element_X8_refusal rfl rfl rfl (by decide +kernel) ⟨Nat.le_of_ble_eq_true rfl, Nat.le_of_ble_eq_true rfl⟩) (pk_V hK hS hAB hPc hDc 0 (ci := 8) rfl rfl rfl) rfl rfl hl.1 rfl (lv_room (Nat.le_of_ble_eq_true rfl)) dX11_element_6 ⟨Nat.le_of_ble_eq_true rfl, Nat.le_of_ble_eq_true rfl⟩) (fun x1 u2 H locs hw hPD hS => ?_)
  obtain ⟨h3, h4⟩ : (x1.toInt ≠ 0 ∨ (0 ≤ p1.toInt ∧ p1.toInt ≤ 5 ∧ 0 ≤ p2.toInt ∧ p2.toInt ≤ 59)) ∧ (((0 ≤ p1.toInt ∧ p1.toInt ≤ 5) ∧ x1.toInt = -11) ∨ (¬ (0 ≤ p1.toInt ∧ p1.toInt ≤ 5) ∧ x1.toInt = -1)) := hw
  obtain ⟨hP, hD⟩ : PD D A [O11 a11 a7 a5 a3 a2 a6 a4 a10 a9 a1 a0 a8 aN, O8 a8 r8, (cI κ (r8 0) 6 f8_sorts)] H := hPD
  refine lv_if_eq (tgt := 18) hx hb dX11_element_9 (by decide) (fun c5 => ?_) (fun c5 => ?_)
  · have c5 := ci_eq c5
    exfalso
    omega
  have c5 := ci_ne c5
  refine lv_ldc2 (v := ((-9223372036854775808) : Int64)) hx hb hown w2 dX11_element_12 ?_
  refine lv_goto (tgt := 29) hx hb dX11_element_15 (by decide) ?_
  have hpo : ((-9223372036854775808) : Int64).toInt = (-9223372036854775808) := (by omega)
  exact ret _ _ _ _ ((-9223372036854775808) : Int64) () dX11_element_29 hpo hP hD hS
set_option maxHeartbeats 4000000 in
set_option maxRecDepth 100000 in
theorem k_X11_shift (l : Launch) (D : va_G) (κ : Nat → ClassId) (β : Nat) (a11 : Nat) (a7 : Nat) (a5 : Nat) (a3 : Nat) (a2 : Nat) (a6 : Nat) (a4 : Nat) (a10 : Nat) (a9 : Nat) (a1 : Nat) (a0 : Nat) (a8 : Nat) (aN : Nat) (r8 : Nat → Nat) (f8_sorts : Nat → Int32) (sz : Nat) (p1 : Int32) (p2 : Int32) (p3 : Int32) (p4 : Int32) (p5 : Int32) (i1 : p1.toInt < 0 ∨ 5 < p1.toInt ∨ (f8_sorts p1.toNatClampNeg).toInt = -1) (i2 : p3.toInt < 0 ∨ 5 < p3.toInt ∨ (f8_sorts p3.toNatClampNeg).toInt = -1) : Met l yX11_shift wsX11_shift ({ frames := 2, cells := 0, slots := 0, locals := 43 } : Room) (PcK D κ β [O11 a11 a7 a5 a3 a2 a6 a4 a10 a9 a1 a0 a8 aN, O8 a8 r8, (cI κ (r8 0) 6 f8_sorts)] sz [.ref a11, .int p1, .int p2, .int p3, .int p4, .int p5]) (QiK D (fun (r : Int32) (u : Unit) => ((0 ≤ p1.toInt ∧ p1.toInt ≤ 5 ∧ 0 ≤ p3.toInt ∧ p3.toInt ≤ 5) ∧ r.toInt = -11) ∨ (¬ (0 ≤ p1.toInt ∧ p1.toInt ≤ 5 ∧ 0 ≤ p3.toInt ∧ p3.toInt ≤ 5) ∧ r.toInt = -1)) (fun (u : Unit) => [O11 a11 a7 a5 a3 a2 a6 a4 a10 a9 a1 a0 a8 aN, O8 a8 r8, (cI κ (r8 0) 6 f8_sorts)]) [O11 a11 a7 a5 a3 a2 a6 a4 a10 a9 a1 a0 a8 aN, O8 a8 r8, (cI κ (r8 0) 6 f8_sorts)] sz) 0 0 (va_A [O11 a11 a7 a5 a3 a2 a6 a4 a10 a9 a1 a0 a8 aN, O8 a8 r8, (cI κ (r8 0) 6 f8_sorts)] sz) := by
  refine ofK_i (cc := cX11_shift) (maxL := 6) (own := RX11) (by decide) rfl rfl (Nat.le_of_ble_eq_true rfl) ?_
  intro p e s m args below meth c Q A ls hsz hx hb hml hts hown hK hA hAB hP hD hl ret
  have hS : va_S A s.heap s.heap [] := va_S.rf
  have hl : lv_has ls 6 [(0, .ref a11), (1, .int p1), (2, .int p2), (3, .int p3), (4, .int p4), (5, .int p5)] := hl
  have w0 := hts (.fieldLink RX11 82 "OlderSkin" "shelves" "LOlderSkin$Shelves;") (List.mem_of_getElem? (i := 1) rfl)
  have w1 := (fun w h => List.mem_cons_of_mem _ (List.mem_append_left _ (List.mem_append_right _ h)) : ∀ w ∈ u_ws RX11 TX11 12, w ∈ wsX11_shift)
  have l0 : (0 : Int32).toInt = 0 := by decide
  have l1 : ((-1) : Int32).toInt = -1 := by decide
  have l2 : ((-11) : Int32).toInt = -11 := by decide
  refine lv_aload_n hx hb dX11_shift_0 rfl (lv_at hl 0 rfl) ?_
  refine va_get (D := D) (ci := 11) (v := .ref a8) (C := RX11) (T := TX11) (N := 12) hx hb hts w1 hown hK.1 hP 0 rfl rfl 10 (by decide) w0 (fun _ h9 => h9) rfl dX11_shift_1 ?_
  refine lv_iload_n hx hb dX11_shift_4 rfl (lv_at hl 1 rfl) ?_
  refine kcm_i hA hAB hP hD hS [false, true, true] rfl (fun _ => rfl) (fun hPc hDc => va_runV (As := [.int p1]) (rest := []) ⟨hx, hb, hml, hown, hts⟩ (k_X8_isShelf l D κ β a8 r8 f8_sorts s.heap.size p1) (cwV 1 hts gX11_shift_X8_isShelf rfl rfl rfl (by decide +kernel) ⟨Nat.le_of_ble_eq_true rfl, Nat.le_of_ble_eq_true rfl⟩) (pk_V hK hS hAB hPc hDc 0 (ci := 8) rfl rfl rfl) rfl rfl hl.1 rfl (lv_room (Nat.le_of_ble_eq_true rfl)) dX11_shift_5 ⟨Nat.le_of_ble_eq_true rfl, Nat.le_of_ble_eq_true rfl⟩) (fun x1 u2 H locs hw hPD hS => ?_)
  have h3 : (x1.toInt = 1 ∧ 0 ≤ p1.toInt ∧ p1.toInt ≤ 5) ∨ (x1.toInt = 0 ∧ (p1.toInt < 0 ∨ 5 < p1.toInt)) := hw
  obtain ⟨hP, hD⟩ : PD D A [O11 a11 a7 a5 a3 a2 a6 a4 a10 a9 a1 a0 a8 aN, O8 a8 r8, (cI κ (r8 0) 6 f8_sorts)] H := hPD
  refine lv_if_eq (tgt := 22) hx hb dX11_shift_8 (by decide) (fun c4 => ?_) (fun c4 => ?_)
  · have c4 := ci_eq c4
    refine lv_iconst (v := (-1)) hx hb dX11_shift_22 (by decide) ?_
    have hpo : ((0 ≤ p1.toInt ∧ p1.toInt ≤ 5 ∧ 0 ≤ p3.toInt ∧ p3.toInt ≤ 5) ∧ ((-1) : Int32).toInt = -11) ∨ (¬ (0 ≤ p1.toInt ∧ p1.toInt ≤ 5 ∧ 0 ≤ p3.toInt ∧ p3.toInt ≤ 5) ∧ ((-1) : Int32).toInt = -1) := (by omega)
    exact ret _ _ _ _ (-1) () dX11_shift_23 hpo hP hD hS
  have c4 := ci_ne c4
  refine lv_aload_n hx hb dX11_shift_11 rfl (lv_at hl 0 rfl) ?_
  refine va_get (D := D) (ci := 11) (v := .ref a8) (C := RX11) (T := TX11) (N := 12) hx hb hts w1 hown hK.1 hP 0 rfl rfl 10 (by decide) w0 (fun _ h9 => h9) rfl dX11_shift_12 ?_
  refine lv_iload_n hx hb dX11_shift_15 rfl (lv_at hl 3 rfl) ?_
  refine kcm_i hA hAB hP hD hS [false, true, true] rfl (fun _ => rfl) (fun hPc hDc => va_runV (As := [.int p3]) (rest := []) ⟨hx, hb, hml, hown, hts⟩ (k_X8_isShelf l D κ β a8 r8 f8_sorts H.size p3) (cwV 1 hts gX11_shift_X8_isShelf rfl rfl rfl (by decide +kernel) ⟨Nat.le_of_ble_eq_true rfl, Nat.le_of_ble_eq_true rfl⟩) (pk_V hK hS hAB hPc hDc 0 (ci := 8) rfl rfl rfl) rfl rfl hl.1 rfl (lv_room (Nat.le_of_ble_eq_true rfl)) dX11_shift_16 ⟨Nat.le_of_ble_eq_true rfl, Nat.le_of_ble_eq_true rfl⟩) (fun x5 u6 H locs hw hPD hS => ?_)
  have h7 : (x5.toInt = 1 ∧ 0 ≤ p3.toInt ∧ p3.toInt ≤ 5) ∨ (x5.toInt = 0 ∧ (p3.toInt < 0 ∨ 5 < p3.toInt)) := hw
  obtain ⟨hP, hD⟩ : PD D A [O11 a11 a7 a5 a3 a2 a6 a4 a10 a9 a1 a0 a8 aN, O8 a8 r8, (cI κ (r8 0) 6 f8_sorts)] H := hPD
  refine lv_if_ne (tgt := 24) hx hb dX11_shift_19 (by decide) (fun c8 => ?_) (fun c8 => ?_)
  · have c8 := ci_ne c8
    refine lv_aload_n hx hb dX11_shift_24 rfl (lv_at hl 0 rfl) ?_
    refine va_get (D := D) (ci := 11) (v := .ref a8) (C := RX11) (T := TX11) (N := 12) hx hb hts w1 hown hK.1 hP 0 rfl rfl 10 (by decide) w0 (fun _ h9 => h9) rfl dX11_shift_25 ?_
    refine lv_iload_n hx hb dX11_shift_28 rfl (lv_at hl 1 rfl) ?_
    refine kcm_i hA hAB hP hD hS [false, true, true] rfl (fun _ => rfl) (fun hPc hDc => va_runV (As := [.int p1]) (rest := []) ⟨hx, hb, hml, hown, hts⟩ (k_X8_isBare l D κ β a8 r8 f8_sorts H.size p1 (by omega) (by omega)) (cwV 1 hts gX11_shift_X8_isBare rfl rfl rfl (by decide +kernel) ⟨Nat.le_of_ble_eq_true rfl, Nat.le_of_ble_eq_true rfl⟩) (pk_V hK hS hAB hPc hDc 0 (ci := 8) rfl rfl rfl) rfl rfl hl.1 rfl (lv_room (Nat.le_of_ble_eq_true rfl)) dX11_shift_29 ⟨Nat.le_of_ble_eq_true rfl, Nat.le_of_ble_eq_true rfl⟩) (fun x9 u10 H locs hw hPD hS => ?_)
    have h11 : x9.toInt = 1 := hw
    obtain ⟨hP, hD⟩ : PD D A [O11 a11 a7 a5 a3 a2 a6 a4 a10 a9 a1 a0 a8 aN, O8 a8 r8, (cI κ (r8 0) 6 f8_sorts)] H := hPD
    refine lv_if_ne (tgt := 46) hx hb dX11_shift_32 (by decide) (fun c12 => ?_) (fun c12 => ?_)
    · have c12 := ci_ne c12
      refine lv_bipush (v := (-11)) hx hb dX11_shift_46 (by decide) ?_
      have hpo : ((0 ≤ p1.toInt ∧ p1.toInt ≤ 5 ∧ 0 ≤ p3.toInt ∧ p3.toInt ≤ 5) ∧ ((-11) : Int32).toInt = -11) ∨ (¬ (0 ≤ p1.toInt ∧ p1.toInt ≤ 5 ∧ 0 ≤ p3.toInt ∧ p3.toInt ≤ 5) ∧ ((-11) : Int32).toInt = -1) := (by omega)
      exact ret _ _ _ _ (-11) () dX11_shift_48 hpo hP hD hS
    have c12 := ci_eq c12
    exfalso
    omega
  have c8 := ci_eq c8
  refine lv_iconst (v := (-1)) hx hb dX11_shift_22 (by decide) ?_
  have hpo : ((0 ≤ p1.toInt ∧ p1.toInt ≤ 5 ∧ 0 ≤ p3.toInt ∧ p3.toInt ≤ 5) ∧ ((-1) : Int32).toInt = -11) ∨ (¬ (0 ≤ p1.toInt ∧ p1.toInt ≤ 5 ∧ 0 ≤ p3.toInt ∧ p3.toInt ≤ 5) ∧ ((-1) : Int32).toInt = -1) := (by omega)
  exact ret _ _ _ _ (-1) () dX11_shift_23 hpo hP hD hS
set_option maxHeartbeats 4000000 in
set_option maxRecDepth 100000 in
theorem k_X11_taken (l : Launch) (D : va_G) (κ : Nat → ClassId) (β : Nat) (a11 : Nat) (a7 : Nat) (a5 : Nat) (a3 : Nat) (a2 : Nat) (a6 : Nat) (a4 : Nat) (a10 : Nat) (a9 : Nat) (a1 : Nat) (a0 : Nat) (a8 : Nat) (aN : Nat) (r8 : Nat → Nat) (f8_sorts : Nat → Int32) (sz : Nat) (p1 : Int32) (p2 : Int32) (i1 : p1.toInt < 0 ∨ 5 < p1.toInt ∨ (f8_sorts p1.toNatClampNeg).toInt = -1) : Met l yX11_taken wsX11_taken ({ frames := 2, cells := 0, slots := 0, locals := 43 } : Room) (PcK D κ β [O11 a11 a7 a5 a3 a2 a6 a4 a10 a9 a1 a0 a8 aN, O8 a8 r8, (cI κ (r8 0) 6 f8_sorts)] sz [.ref a11, .int p1, .int p2]) (QiK D (fun (r : Int32) (u : Unit) => ((0 ≤ p1.toInt ∧ p1.toInt ≤ 5 ∧ 0 ≤ p2.toInt ∧ p2.toInt ≤ 7) ∧ r.toInt = -11) ∨ (¬ (0 ≤ p1.toInt ∧ p1.toInt ≤ 5 ∧ 0 ≤ p2.toInt ∧ p2.toInt ≤ 7) ∧ r.toInt = -1)) (fun (u : Unit) => [O11 a11 a7 a5 a3 a2 a6 a4 a10 a9 a1 a0 a8 aN, O8 a8 r8, (cI κ (r8 0) 6 f8_sorts)]) [O11 a11 a7 a5 a3 a2 a6 a4 a10 a9 a1 a0 a8 aN, O8 a8 r8, (cI κ (r8 0) 6 f8_sorts)] sz) 0 0 (va_A [O11 a11 a7 a5 a3 a2 a6 a4 a10 a9 a1 a0 a8 aN, O8 a8 r8, (cI κ (r8 0) 6 f8_sorts)] sz) := by
  refine ofK_i (cc := cX11_taken) (maxL := 3) (own := RX11) (by decide) rfl rfl (Nat.le_of_ble_eq_true rfl) ?_
  intro p e s m args below meth c Q A ls hsz hx hb hml hts hown hK hA hAB hP hD hl ret
  have hS : va_S A s.heap s.heap [] := va_S.rf
  have hl : lv_has ls 3 [(0, .ref a11), (1, .int p1), (2, .int p2)] := hl
  have w0 := hts (.fieldLink RX11 82 "OlderSkin" "shelves" "LOlderSkin$Shelves;") (List.mem_of_getElem? (i := 1) rfl)
  have w1 := (fun w h => List.mem_cons_of_mem _ (List.mem_append_left _ (List.mem_append_right _ h)) : ∀ w ∈ u_ws RX11 TX11 12, w ∈ wsX11_taken)
  have l0 : (0 : Int32).toInt = 0 := by decide
  have l1 : ((-1) : Int32).toInt = -1 := by decide
  have l2 : (7 : Int32).toInt = 7 := by decide
  have l3 : ((-11) : Int32).toInt = -11 := by decide
  refine lv_aload_n hx hb dX11_taken_0 rfl (lv_at hl 0 rfl) ?_
  refine va_get (D := D) (ci := 11) (v := .ref a8) (C := RX11) (T := TX11) (N := 12) hx hb hts w1 hown hK.1 hP 0 rfl rfl 10 (by decide) w0 (fun _ h9 => h9) rfl dX11_taken_1 ?_
  refine lv_iload_n hx hb dX11_taken_4 rfl (lv_at hl 1 rfl) ?_
  refine kcm_i hA hAB hP hD hS [false, true, true] rfl (fun _ => rfl) (fun hPc hDc => va_runV (As := [.int p1]) (rest := []) ⟨hx, hb, hml, hown, hts⟩ (k_X8_isShelf l D κ β a8 r8 f8_sorts s.heap.size p1) (cwV 1 hts gX11_taken_X8_isShelf rfl rfl rfl (by decide +kernel) ⟨Nat.le_of_ble_eq_true rfl, Nat.le_of_ble_eq_true rfl⟩) (pk_V hK hS hAB hPc hDc 0 (ci := 8) rfl rfl rfl) rfl rfl hl.1 rfl (lv_room (Nat.le_of_ble_eq_true rfl)) dX11_taken_5 ⟨Nat.le_of_ble_eq_true rfl, Nat.le_of_ble_eq_true rfl⟩) (fun x1 u2 H locs hw hPD hS => ?_)
  have h3 : (x1.toInt = 1 ∧ 0 ≤ p1.toInt ∧ p1.toInt ≤ 5) ∨ (x1.toInt = 0 ∧ (p1.toInt < 0 ∨ 5 < p1.toInt)) := hw
  obtain ⟨hP, hD⟩ : PD D A [O11 a11 a7 a5 a3 a2 a6 a4 a10 a9 a1 a0 a8 aN, O8 a8 r8, (cI κ (r8 0) 6 f8_sorts)] H := hPD
  refine lv_if_eq (tgt := 21) hx hb dX11_taken_8 (by decide) (fun c4 => ?_) (fun c4 => ?_)
  · have c4 := ci_eq c4
    refine lv_iconst (v := (-1)) hx hb dX11_taken_21 (by decide) ?_
    have hpo : ((0 ≤ p1.toInt ∧ p1.toInt ≤ 5 ∧ 0 ≤ p2.toInt ∧ p2.toInt ≤ 7) ∧ ((-1) : Int32).toInt = -11) ∨ (¬ (0 ≤ p1.toInt ∧ p1.toInt ≤ 5 ∧ 0 ≤ p2.toInt ∧ p2.toInt ≤ 7) ∧ ((-1) : Int32).toInt = -1) := (by omega)
    exact ret _ _ _ _ (-1) () dX11_taken_22 hpo hP hD hS
  have c4 := ci_ne c4
  refine lv_iload_n hx hb dX11_taken_11 rfl (lv_at hl 2 rfl) ?_
  refine lv_iconst (v := 0) hx hb dX11_taken_12 (by decide) ?_
  refine lv_bipush (v := 7) hx hb dX11_taken_13 (by decide) ?_
  refine kcm_i hA hAB hP hD hS [false, false, false] rfl (fun _ => rfl) (fun hPc hDc => va_runS (As := [.int p2, .int 0, .int 7]) (rest := []) ⟨hx, hb, hml, hown, hts⟩ (k_X11_within l D κ β H.size p2 0 7) (va_cwS 3 hts gX11_taken_X11_within rfl rfl rfl (by decide +kernel) ⟨Nat.le_of_ble_eq_true rfl, Nat.le_of_ble_eq_true rfl⟩) (pk_S hK hS hAB hPc hDc) rfl rfl hl.1 rfl (lv_room (Nat.le_of_ble_eq_true rfl)) dX11_taken_15 ⟨Nat.le_of_ble_eq_true rfl, Nat.le_of_ble_eq_true rfl⟩) (fun x5 u6 H locs hw hPD hS => ?_)
  have h7 : (x5.toInt = 1 ∧ (0 : Int32).toInt ≤ p2.toInt ∧ p2.toInt ≤ (7 : Int32).toInt) ∨ (x5.toInt = 0 ∧ (p2.toInt < (0 : Int32).toInt ∨ (7 : Int32).toInt < p2.toInt)) := hw
  obtain ⟨hP, hD⟩ : PD D A [O11 a11 a7 a5 a3 a2 a6 a4 a10 a9 a1 a0 a8 aN, O8 a8 r8, (cI κ (r8 0) 6 f8_sorts)] H := hPD
  refine lv_if_ne (tgt := 23) hx hb dX11_taken_18 (by decide) (fun c8 => ?_) (fun c8 => ?_)
  · have c8 := ci_ne c8
    refine lv_aload_n hx hb dX11_taken_23 rfl (lv_at hl 0 rfl) ?_
    refine va_get (D := D) (ci := 11) (v := .ref a8) (C := RX11) (T := TX11) (N := 12) hx hb hts w1 hown hK.1 hP 0 rfl rfl 10 (by decide) w0 (fun _ h9 => h9) rfl dX11_taken_24 ?_
    refine lv_iload_n hx hb dX11_taken_27 rfl (lv_at hl 1 rfl) ?_
    refine kcm_i hA hAB hP hD hS [false, true, true] rfl (fun _ => rfl) (fun hPc hDc => va_runV (As := [.int p1]) (rest := []) ⟨hx, hb, hml, hown, hts⟩ (k_X8_isBare l D κ β a8 r8 f8_sorts H.size p1 (by omega) (by omega)) (cwV 1 hts gX11_taken_X8_isBare rfl rfl rfl (by decide +kernel) ⟨Nat.le_of_ble_eq_true rfl, Nat.le_of_ble_eq_true rfl⟩) (pk_V hK hS hAB hPc hDc 0 (ci := 8) rfl rfl rfl) rfl rfl hl.1 rfl (lv_room (Nat.le_of_ble_eq_true rfl)) dX11_taken_28 ⟨Nat.le_of_ble_eq_true rfl, Nat.le_of_ble_eq_true rfl⟩) (fun x9 u10 H locs hw hPD hS => ?_)
    have h11 : x9.toInt = 1 := hw
    obtain ⟨hP, hD⟩ : PD D A [O11 a11 a7 a5 a3 a2 a6 a4 a10 a9 a1 a0 a8 aN, O8 a8 r8, (cI κ (r8 0) 6 f8_sorts)] H := hPD
    refine lv_if_eq (tgt := 37) hx hb dX11_taken_31 (by decide) (fun c12 => ?_) (fun c12 => ?_)
    · have c12 := ci_eq c12
      exfalso
      omega
    have c12 := ci_ne c12
    refine lv_bipush (v := (-11)) hx hb dX11_taken_34 (by decide) ?_
    have hpo : ((0 ≤ p1.toInt ∧ p1.toInt ≤ 5 ∧ 0 ≤ p2.toInt ∧ p2.toInt ≤ 7) ∧ ((-11) : Int32).toInt = -11) ∨ (¬ (0 ≤ p1.toInt ∧ p1.toInt ≤ 5 ∧ 0 ≤ p2.toInt ∧ p2.toInt ≤ 7) ∧ ((-11) : Int32).toInt = -1) := (by omega)
    exact ret _ _ _ _ (-11) () dX11_taken_36 hpo hP hD hS
  have c8 := ci_eq c8
  refine lv_iconst (v := (-1)) hx hb dX11_taken_21 (by decide) ?_
  have hpo : ((0 ≤ p1.toInt ∧ p1.toInt ≤ 5 ∧ 0 ≤ p2.toInt ∧ p2.toInt ≤ 7) ∧ ((-1) : Int32).toInt = -11) ∨ (¬ (0 ≤ p1.toInt ∧ p1.toInt ≤ 5 ∧ 0 ≤ p2.toInt ∧ p2.toInt ≤ 7) ∧ ((-1) : Int32).toInt = -1) := (by omega)
  exact ret _ _ _ _ (-1) () dX11_taken_22 hpo hP hD hS
set_option maxHeartbeats 4000000 in
set_option maxRecDepth 100000 in
theorem k_X11_dotComes (l : Launch) (D : va_G) (κ : Nat → ClassId) (β : Nat) (a11 : Nat) (a7 : Nat) (a5 : Nat) (a3 : Nat) (a2 : Nat) (a6 : Nat) (a4 : Nat) (a10 : Nat) (a9 : Nat) (a1 : Nat) (a0 : Nat) (a8 : Nat) (aN : Nat) (sz : Nat) (p1 : Int32) (p2 : Int32) (i1 : (1 : Int) ≤ 0) : Met l yX11_dotComes wsX11_dotComes ({ frames := 1, cells := 0, slots := 0, locals := 30 } : Room) (PcK D κ β [O11 a11 a7 a5 a3 a2 a6 a4 a10 a9 a1 a0 a8 aN] sz [.ref a11, .int p1, .int p2]) (QiK D (fun (r : Int32) (u : Unit) => r.toInt = 0 ∨ r.toInt = 1) (fun (u : Unit) => [O11 a11 a7 a5 a3 a2 a6 a4 a10 a9 a1 a0 a8 aN]) [O11 a11 a7 a5 a3 a2 a6 a4 a10 a9 a1 a0 a8 aN] sz) 0 0 (va_A [O11 a11 a7 a5 a3 a2 a6 a4 a10 a9 a1 a0 a8 aN] sz) := by
  refine ofK_z (cc := cX11_dotComes) (maxL := 6) (own := RX11) (by decide) rfl rfl (Nat.le_of_ble_eq_true rfl) ?_
  intro p e s m args below meth c Q A ls hsz hx hb hml hts hown hK hA hAB hP hD hl ret
  have hS : va_S A s.heap s.heap [] := va_S.rf
  have hl : lv_has ls 6 [(0, .ref a11), (1, .int p1), (2, .int p2)] := hl
  exfalso
  omega
set_option maxHeartbeats 4000000 in
set_option maxRecDepth 100000 in
theorem k_X11_dots (l : Launch) (D : va_G) (κ : Nat → ClassId) (β : Nat) (a11 : Nat) (a7 : Nat) (a5 : Nat) (a3 : Nat) (a2 : Nat) (a6 : Nat) (a4 : Nat) (a10 : Nat) (a9 : Nat) (a1 : Nat) (a0 : Nat) (a8 : Nat) (aN : Nat) (r8 : Nat → Nat) (f8_sorts : Nat → Int32) (sz : Nat) (p1 : Int32) (p2 : Int32) (p3 : Int32) (i1 : p1.toInt < 0 ∨ 5 < p1.toInt ∨ (f8_sorts p1.toNatClampNeg).toInt = -1) : Met l yX11_dots wsX11_dots ({ frames := 2, cells := 0, slots := 0, locals := 43 } : Room) (PcK D κ β [O11 a11 a7 a5 a3 a2 a6 a4 a10 a9 a1 a0 a8 aN, O8 a8 r8, (cI κ (r8 0) 6 f8_sorts)] sz [.ref a11, .int p1, .int p2, .int p3]) (QiK D (fun (r : Int32) (u : Unit) => ((0 ≤ p1.toInt ∧ p1.toInt ≤ 5 ∧ 1 ≤ p3.toInt ∧ p3.toInt ≤ 20) ∧ r.toInt = 0) ∨ (¬ (0 ≤ p1.toInt ∧ p1.toInt ≤ 5 ∧ 1 ≤ p3.toInt ∧ p3.toInt ≤ 20) ∧ r.toInt = -1)) (fun (u : Unit) => [O11 a11 a7 a5 a3 a2 a6 a4 a10 a9 a1 a0 a8 aN, O8 a8 r8, (cI κ (r8 0) 6 f8_sorts)]) [O11 a11 a7 a5 a3 a2 a6 a4 a10 a9 a1 a0 a8 aN, O8 a8 r8, (cI κ (r8 0) 6 f8_sorts)] sz) 0 0 (va_A [O11 a11 a7 a5 a3 a2 a6 a4 a10 a9 a1 a0 a8 aN, O8 a8 r8, (cI κ (r8 0) 6 f8_sorts)] sz) := by
  refine ofK_i (cc := cX11_dots) (maxL := 6) (own := RX11) (by decide) rfl rfl (Nat.le_of_ble_eq_true rfl) ?_
  intro p e s m args below meth c Q A ls hsz hx hb hml hts hown hK hA hAB hP hD hl ret
  have hS : va_S A s.heap s.heap [] := va_S.rf
  have hl : lv_has ls 6 [(0, .ref a11), (1, .int p1), (2, .int p2), (3, .int p3)] := hl
  have w0 := hts (.fieldLink RX11 82 "OlderSkin" "shelves" "LOlderSkin$Shelves;") (List.mem_of_getElem? (i := 1) rfl)
  have w1 := (fun w h => List.mem_cons_of_mem _ (List.mem_append_left _ (List.mem_append_left _ (List.mem_append_right _ h))) : ∀ w ∈ u_ws RX11 TX11 12, w ∈ wsX11_dots)
  have l0 : (0 : Int32).toInt = 0 := by decide
  have l1 : ((-1) : Int32).toInt = -1 := by decide
  have l2 : (1 : Int32).toInt = 1 := by decide
  have l3 : (20 : Int32).toInt = 20 := by decide
  refine lv_aload_n hx hb dX11_dots_0 rfl (lv_at hl 0 rfl) ?_
  refine va_get (D := D) (ci := 11) (v := .ref a8) (C := RX11) (T := TX11) (N := 12) hx hb hts w1 hown hK.1 hP 0 rfl rfl 10 (by decide) w0 (fun _ h9 => h9) rfl dX11_dots_1 ?_
  refine lv_iload_n hx hb dX11_dots_4 rfl (lv_at hl 1 rfl) ?_
  refine kcm_i hA hAB hP hD hS [false, true, true] rfl (fun _ => rfl) (fun hPc hDc => va_runV (As := [.int p1]) (rest := []) ⟨hx, hb, hml, hown, hts⟩ (k_X8_isShelf l D κ β a8 r8 f8_sorts s.heap.size p1) (cwV 1 hts gX11_dots_X8_isShelf rfl rfl rfl (by decide +kernel) ⟨Nat.le_of_ble_eq_true rfl, Nat.le_of_ble_eq_true rfl⟩) (pk_V hK hS hAB hPc hDc 0 (ci := 8) rfl rfl rfl) rfl rfl hl.1 rfl (lv_room (Nat.le_of_ble_eq_true rfl)) dX11_dots_5 ⟨Nat.le_of_ble_eq_true rfl, Nat.le_of_ble_eq_true rfl⟩) (fun x1 u2 H locs hw hPD hS => ?_)
  have h3 : (x1.toInt = 1 ∧ 0 ≤ p1.toInt ∧ p1.toInt ≤ 5) ∨ (x1.toInt = 0 ∧ (p1.toInt < 0 ∨ 5 < p1.toInt)) := hw
  obtain ⟨hP, hD⟩ : PD D A [O11 a11 a7 a5 a3 a2 a6 a4 a10 a9 a1 a0 a8 aN, O8 a8 r8, (cI κ (r8 0) 6 f8_sorts)] H := hPD
  refine lv_if_eq (tgt := 21) hx hb dX11_dots_8 (by decide) (fun c4 => ?_) (fun c4 => ?_)
  · have c4 := ci_eq c4
    refine lv_iconst (v := (-1)) hx hb dX11_dots_21 (by decide) ?_
    have hpo : ((0 ≤ p1.toInt ∧ p1.toInt ≤ 5 ∧ 1 ≤ p3.toInt ∧ p3.toInt ≤ 20) ∧ ((-1) : Int32).toInt = 0) ∨ (¬ (0 ≤ p1.toInt ∧ p1.toInt ≤ 5 ∧ 1 ≤ p3.toInt ∧ p3.toInt ≤ 20) ∧ ((-1) : Int32).toInt = -1) := (by omega)
    exact ret _ _ _ _ (-1) () dX11_dots_22 hpo hP hD hS
  have c4 := ci_ne c4
  refine lv_iload_n hx hb dX11_dots_11 rfl (lv_at hl 3 rfl) ?_
  refine lv_iconst (v := 1) hx hb dX11_dots_12 (by decide) ?_
  refine lv_bipush (v := 20) hx hb dX11_dots_13 (by decide) ?_
  refine kcm_i hA hAB hP hD hS [false, false, false] rfl (fun _ => rfl) (fun hPc hDc => va_runS (As := [.int p3, .int 1, .int 20]) (rest := []) ⟨hx, hb, hml, hown, hts⟩ (k_X11_within l D κ β H.size p3 1 20) (va_cwS 3 hts gX11_dots_X11_within rfl rfl rfl (by decide +kernel) ⟨Nat.le_of_ble_eq_true rfl, Nat.le_of_ble_eq_true rfl⟩) (pk_S hK hS hAB hPc hDc) rfl rfl hl.1 rfl (lv_room (Nat.le_of_ble_eq_true rfl)) dX11_dots_15 ⟨Nat.le_of_ble_eq_true rfl, Nat.le_of_ble_eq_true rfl⟩) (fun x5 u6 H locs hw hPD hS => ?_)
  have h7 : (x5.toInt = 1 ∧ (1 : Int32).toInt ≤ p3.toInt ∧ p3.toInt ≤ (20 : Int32).toInt) ∨ (x5.toInt = 0 ∧ (p3.toInt < (1 : Int32).toInt ∨ (20 : Int32).toInt < p3.toInt)) := hw
  obtain ⟨hP, hD⟩ : PD D A [O11 a11 a7 a5 a3 a2 a6 a4 a10 a9 a1 a0 a8 aN, O8 a8 r8, (cI κ (r8 0) 6 f8_sorts)] H := hPD
  refine lv_if_ne (tgt := 23) hx hb dX11_dots_18 (by decide) (fun c8 => ?_) (fun c8 => ?_)
  · have c8 := ci_ne c8
    refine lv_aload_n hx hb dX11_dots_23 rfl (lv_at hl 0 rfl) ?_
    refine va_get (D := D) (ci := 11) (v := .ref a8) (C := RX11) (T := TX11) (N := 12) hx hb hts w1 hown hK.1 hP 0 rfl rfl 10 (by decide) w0 (fun _ h9 => h9) rfl dX11_dots_24 ?_
    refine lv_iload_n hx hb dX11_dots_27 rfl (lv_at hl 1 rfl) ?_
    refine kcm_i hA hAB hP hD hS [false, true, true] rfl (fun _ => rfl) (fun hPc hDc => va_runV (As := [.int p1]) (rest := []) ⟨hx, hb, hml, hown, hts⟩ (k_X8_isBare l D κ β a8 r8 f8_sorts H.size p1 (by omega) (by omega)) (cwV 1 hts gX11_dots_X8_isBare rfl rfl rfl (by decide +kernel) ⟨Nat.le_of_ble_eq_true rfl, Nat.le_of_ble_eq_true rfl⟩) (pk_V hK hS hAB hPc hDc 0 (ci := 8) rfl rfl rfl) rfl rfl hl.1 rfl (lv_room (Nat.le_of_ble_eq_true rfl)) dX11_dots_28 ⟨Nat.le_of_ble_eq_true rfl, Nat.le_of_ble_eq_true rfl⟩) (fun x9 u10 H locs hw hPD hS => ?_)
    have h11 : x9.toInt = 1 := hw
    obtain ⟨hP, hD⟩ : PD D A [O11 a11 a7 a5 a3 a2 a6 a4 a10 a9 a1 a0 a8 aN, O8 a8 r8, (cI κ (r8 0) 6 f8_sorts)] H := hPD
    refine lv_if_eq (tgt := 36) hx hb dX11_dots_31 (by decide) (fun c12 => ?_) (fun c12 => ?_)
    · have c12 := ci_eq c12
      exfalso
      omega
    have c12 := ci_ne c12
    refine lv_iconst (v := 0) hx hb dX11_dots_34 (by decide) ?_
    have hpo : ((0 ≤ p1.toInt ∧ p1.toInt ≤ 5 ∧ 1 ≤ p3.toInt ∧ p3.toInt ≤ 20) ∧ (0 : Int32).toInt = 0) ∨ (¬ (0 ≤ p1.toInt ∧ p1.toInt ≤ 5 ∧ 1 ≤ p3.toInt ∧ p3.toInt ≤ 20) ∧ (0 : Int32).toInt = -1) := (by omega)
    exact ret _ _ _ _ 0 () dX11_dots_35 hpo hP hD hS
  have c8 := ci_eq c8
  refine lv_iconst (v := (-1)) hx hb dX11_dots_21 (by decide) ?_
  have hpo : ((0 ≤ p1.toInt ∧ p1.toInt ≤ 5 ∧ 1 ≤ p3.toInt ∧ p3.toInt ≤ 20) ∧ ((-1) : Int32).toInt = 0) ∨ (¬ (0 ≤ p1.toInt ∧ p1.toInt ≤ 5 ∧ 1 ≤ p3.toInt ∧ p3.toInt ≤ 20) ∧ ((-1) : Int32).toInt = -1) := (by omega)
  exact ret _ _ _ _ (-1) () dX11_dots_22 hpo hP hD hS
