set_option maxHeartbeats 4000000 in
set_option maxRecDepth 100000 in
theorem k_X11_keep (l : Launch) (D : va_G) (κ : Nat → ClassId) (β : Nat) (a11 : Nat) (a7 : Nat) (a5 : Nat) (a3 : Nat) (a2 : Nat) (a6 : Nat) (a4 : Nat) (a10 : Nat) (a9 : Nat) (a1 : Nat) (a0 : Nat) (a8 : Nat) (aN : Nat) (r0 : Nat → Nat) (r8 : Nat → Nat) (v0_count : Int32) (v0_ran : Int32) (v0_actor : Int32) (f0_kinds : Nat → Int32) (f8_sorts : Nat → Int32) (f8_bodyKinds : Nat → Int32) (sz : Nat) (p1 : Int32) (p2 : Int32) (i1 : Rg 0 50 v0_count) (i2 : Rg 0 100000000 v0_ran) (i3 : Rg 0 49 v0_actor) (hf0_kinds : ∀ j : Nat, 0 ≤ (f0_kinds j).toInt ∧ (f0_kinds j).toInt ≤ 7) (hf8_bodyKinds : ∀ j : Nat, 0 ≤ (f8_bodyKinds j).toInt ∧ (f8_bodyKinds j).toInt ≤ 7) : Met l yX11_keep wsX11_keep ({ frames := 2, cells := 0, slots := 0, locals := 43 } : Room) (PcK D κ β [O11 a11 a7 a5 a3 a2 a6 a4 a10 a9 a1 a0 a8 aN, O0 a0 r0 v0_count v0_ran v0_actor, (cI κ (r0 0) 50 f0_kinds), O8 a8 r8, (cI κ (r8 0) 6 f8_sorts), (cI κ (r8 2) 6 f8_bodyKinds)] sz [.ref a11, .int p1, .int p2]) (QiK D (fun (r : Int32) (u : (Nat → Int32) × (Nat → Int32)) => (∀ j : Nat, 0 ≤ (u.2 j).toInt ∧ (u.2 j).toInt ≤ 7) ∧ (((0 ≤ p1.toInt ∧ p1.toInt ≤ 5 ∧ (p2.toInt = -1 ∨ (0 ≤ p2.toInt ∧ p2.toInt < v0_count.toInt))) ∧ r.toInt = 1) ∨ (¬ (0 ≤ p1.toInt ∧ p1.toInt ≤ 5 ∧ (p2.toInt = -1 ∨ (0 ≤ p2.toInt ∧ p2.toInt < v0_count.toInt))) ∧ r.toInt = -1))) (fun (u : (Nat → Int32) × (Nat → Int32)) => [O11 a11 a7 a5 a3 a2 a6 a4 a10 a9 a1 a0 a8 aN, O0 a0 r0 v0_count v0_ran v0_actor, (cI κ (r0 0) 50 f0_kinds), O8 a8 r8, (cI κ (r8 0) 6 u.1), (cI κ (r8 2) 6 u.2)]) [O11 a11 a7 a5 a3 a2 a6 a4 a10 a9 a1 a0 a8 aN, O0 a0 r0 v0_count v0_ran v0_actor, (cI κ (r0 0) 50 f0_kinds), O8 a8 r8, (cI κ (r8 0) 6 f8_sorts), (cI κ (r8 2) 6 f8_bodyKinds)] sz) 0 0 (va_A [O11 a11 a7 a5 a3 a2 a6 a4 a10 a9 a1 a0 a8 aN, O0 a0 r0 v0_count v0_ran v0_actor, (cI κ (r0 0) 50 f0_kinds), O8 a8 r8, (cI κ (r8 0) 6 f8_sorts), (cI κ (r8 2) 6 f8_bodyKinds)] sz) := by
  refine ofK_i (cc := cX11_keep) (maxL := 3) (own := RX11) (by decide) rfl rfl (Nat.le_of_ble_eq_true rfl) ?_
  intro p e s m args below meth c Q A ls hsz hx hb hml hts hown hK hA hAB hP hD hl ret
  have hS : va_S A s.heap s.heap [] := va_S.rf
  have hl : lv_has ls 3 [(0, .ref a11), (1, .int p1), (2, .int p2)] := hl
  have w0 := hts (.fieldLink RX11 82 "OlderSkin" "shelves" "LOlderSkin$Shelves;") (List.mem_of_getElem? (i := 1) rfl)
  have w1 := (fun w h => List.mem_cons_of_mem _ (List.mem_append_left _ (List.mem_append_left _ (List.mem_append_right _ h))) : ∀ w ∈ u_ws RX11 TX11 12, w ∈ wsX11_keep)
  have w2 := hts (.fieldLink RX11 75 "OlderSkin" "bodies" "LOlderSkin$Bodies;") (List.mem_of_getElem? (i := 2) rfl)
  have w3 := hts (.fieldLink RX11 420 "OlderSkin$Bodies" "kinds" "[I") (List.mem_of_getElem? (i := 3) rfl)
  have w4 := (fun w h => List.mem_cons_of_mem _ (List.mem_append_left _ (List.mem_append_right _ h)) : ∀ w ∈ u_ws RX0 TX0 5, w ∈ wsX11_keep)
  have l0 : (0 : Int32).toInt = 0 := by decide
  have l1 : ((-1) : Int32).toInt = -1 := by decide
  have l2 : (1 : Int32).toInt = 1 := by decide
  have i1 : 0 ≤ v0_count.toInt ∧ v0_count.toInt ≤ 50 := i1
  refine lv_aload_n hx hb dX11_keep_0 rfl (lv_at hl 0 rfl) ?_
  refine va_get (D := D) (ci := 11) (v := .ref a8) (C := RX11) (T := TX11) (N := 12) hx hb hts w1 hown hK.1 hP 0 rfl rfl 10 (by decide) w0 (fun _ h9 => h9) rfl dX11_keep_1 ?_
  refine lv_iload_n hx hb dX11_keep_4 rfl (lv_at hl 1 rfl) ?_
  refine kcm_i hA hAB hP hD hS [false, false, false, true, true, false] rfl (fun _ => rfl) (fun hPc hDc => va_runV (As := [.int p1]) (rest := []) ⟨hx, hb, hml, hown, hts⟩ (k_X8_isShelf l D κ β a8 r8 f8_sorts s.heap.size p1) (cwV 1 hts gX11_keep_X8_isShelf rfl rfl rfl (by decide +kernel) ⟨Nat.le_of_ble_eq_true rfl, Nat.le_of_ble_eq_true rfl⟩) (pk_V hK hS hAB hPc hDc 0 (ci := 8) rfl rfl rfl) rfl rfl hl.1 rfl (lv_room (Nat.le_of_ble_eq_true rfl)) dX11_keep_5 ⟨Nat.le_of_ble_eq_true rfl, Nat.le_of_ble_eq_true rfl⟩) (fun x1 u2 H locs hw hPD hS => ?_)
  have h3 : (x1.toInt = 1 ∧ 0 ≤ p1.toInt ∧ p1.toInt ≤ 5) ∨ (x1.toInt = 0 ∧ (p1.toInt < 0 ∨ 5 < p1.toInt)) := hw
  obtain ⟨hP, hD⟩ : PD D A [O11 a11 a7 a5 a3 a2 a6 a4 a10 a9 a1 a0 a8 aN, O0 a0 r0 v0_count v0_ran v0_actor, (cI κ (r0 0) 50 f0_kinds), O8 a8 r8, (cI κ (r8 0) 6 f8_sorts), (cI κ (r8 2) 6 f8_bodyKinds)] H := hPD
  refine lv_if_eq (tgt := 27) hx hb dX11_keep_8 (by decide) (fun c4 => ?_) (fun c4 => ?_)
  · have c4 := ci_eq c4
    refine lv_iconst (v := (-1)) hx hb dX11_keep_27 (by decide) ?_
    have hpo : (∀ j : Nat, 0 ≤ (f8_bodyKinds j).toInt ∧ (f8_bodyKinds j).toInt ≤ 7) ∧ (((0 ≤ p1.toInt ∧ p1.toInt ≤ 5 ∧ (p2.toInt = -1 ∨ (0 ≤ p2.toInt ∧ p2.toInt < v0_count.toInt))) ∧ ((-1) : Int32).toInt = 1) ∨ (¬ (0 ≤ p1.toInt ∧ p1.toInt ≤ 5 ∧ (p2.toInt = -1 ∨ (0 ≤ p2.toInt ∧ p2.toInt < v0_count.toInt))) ∧ ((-1) : Int32).toInt = -1)) := ⟨hf8_bodyKinds, (by omega)⟩
    exact ret _ _ _ _ (-1) (f8_sorts, f8_bodyKinds) dX11_keep_28 hpo hP hD hS
  have c4 := ci_ne c4
  refine lv_iload_n hx hb dX11_keep_11 rfl (lv_at hl 2 rfl) ?_
  refine lv_iconst (v := (-1)) hx hb dX11_keep_12 (by decide) ?_
  refine lv_icmp_eq (tgt := 29) hx hb dX11_keep_13 (by decide) (fun c5 => ?_) (fun c5 => ?_)
  · have c5 := ci_eq c5
    refine lv_iload_n hx hb dX11_keep_29 rfl (lv_at hl 2 rfl) ?_
    refine lv_iconst (v := (-1)) hx hb dX11_keep_30 (by decide) ?_
    refine lv_icmp_ne (tgt := 45) hx hb dX11_keep_31 (by decide) (fun c6 => ?_) (fun c6 => ?_)
    · have c6 := ci_ne c6
      refine lv_aload_n hx hb dX11_keep_45 rfl (lv_at hl 0 rfl) ?_
      refine va_get (D := D) (ci := 11) (v := .ref a8) (C := RX11) (T := TX11) (N := 12) hx hb hts w1 hown hK.1 hP 0 rfl rfl 10 (by decide) w0 (fun _ h9 => h9) rfl dX11_keep_46 ?_
      refine lv_iload_n hx hb dX11_keep_49 rfl (lv_at hl 1 rfl) ?_
      refine lv_aload_n hx hb dX11_keep_50 rfl (lv_at hl 0 rfl) ?_
      refine va_get (D := D) (ci := 11) (v := .ref a0) (C := RX11) (T := TX11) (N := 12) hx hb hts w1 hown hK.1 hP 0 rfl rfl 9 (by decide) w2 (fun _ h9 => h9) rfl dX11_keep_51 ?_
      refine va_get (D := D) (ci := 0) (v := .ref (r0 0)) (C := RX0) (T := TX0) (N := 5) hx hb hts w4 hown hK.1 hP 1 rfl rfl 0 (by decide) w3 (fun _ h9 => h9) rfl dX11_keep_54 ?_
      refine lv_iload_n hx hb dX11_keep_57 rfl (lv_at hl 2 rfl) ?_
      refine va_iald hx hb hK.1 hP 2 1 rfl rfl (i := p2) (ix (by omega) (by omega)) dX11_keep_58 ?_
      refine lv_topi (fun x7 e8 => ?_)
      have h9 : 0 ≤ x7.toInt ∧ x7.toInt ≤ 7 := by rw [e8]; exact hf0_kinds _
      refine kcm_v hA hAB hP hD hS [false, false, false, true, true, true] rfl (fun _ => rfl) (fun hPc hDc => va_runV (As := [.int p1, .int x7]) (rest := []) ⟨hx, hb, hml, hown, hts⟩ (k_X8_layBody l D κ β a8 r8 f8_sorts f8_bodyKinds H.size p1 x7 hf8_bodyKinds (by omega) (by omega)) (cwV 2 hts gX11_keep_X8_layBody rfl rfl rfl (by decide +kernel) ⟨Nat.le_of_ble_eq_true rfl, Nat.le_of_ble_eq_true rfl⟩) (pk_V hK hS hAB hPc hDc 0 (ci := 8) rfl rfl rfl) rfl rfl hl.1 rfl (lv_room (Nat.le_of_ble_eq_true rfl)) dX11_keep_59 ⟨Nat.le_of_ble_eq_true rfl, Nat.le_of_ble_eq_true rfl⟩) (fun u12 H locs hw hPD hS => ?_)
      obtain ⟨g10, g11⟩ := u12
      have h13 : ∀ j : Nat, 0 ≤ (g11 j).toInt ∧ (g11 j).toInt ≤ 7 := hw
      obtain ⟨hP, hD⟩ : PD D A [O11 a11 a7 a5 a3 a2 a6 a4 a10 a9 a1 a0 a8 aN, O0 a0 r0 v0_count v0_ran v0_actor, (cI κ (r0 0) 50 f0_kinds), O8 a8 r8, (cI κ (r8 0) 6 g10), (cI κ (r8 2) 6 g11)] H := hPD
      refine lv_iconst (v := 1) hx hb dX11_keep_62 (by decide) ?_
      have hpo : (∀ j : Nat, 0 ≤ (g11 j).toInt ∧ (g11 j).toInt ≤ 7) ∧ (((0 ≤ p1.toInt ∧ p1.toInt ≤ 5 ∧ (p2.toInt = -1 ∨ (0 ≤ p2.toInt ∧ p2.toInt < v0_count.toInt))) ∧ (1 : Int32).toInt = 1) ∨ (¬ (0 ≤ p1.toInt ∧ p1.toInt ≤ 5 ∧ (p2.toInt = -1 ∨ (0 ≤ p2.toInt ∧ p2.toInt < v0_count.toInt))) ∧ (1 : Int32).toInt = -1)) := ⟨h13, (by omega)⟩
      exact ret _ _ _ _ 1 (g10, g11) dX11_keep_63 hpo hP hD hS
    have c6 := ci_eq c6
    refine lv_aload_n hx hb dX11_keep_34 rfl (lv_at hl 0 rfl) ?_
    refine va_get (D := D) (ci := 11) (v := .ref a8) (C := RX11) (T := TX11) (N := 12) hx hb hts w1 hown hK.1 hP 0 rfl rfl 10 (by decide) w0 (fun _ h9 => h9) rfl dX11_keep_35 ?_
    refine lv_iload_n hx hb dX11_keep_38 rfl (lv_at hl 1 rfl) ?_
    refine kcm_v hA hAB hP hD hS [false, false, false, true, true, false] rfl (fun _ => rfl) (fun hPc hDc => va_runV (As := [.int p1]) (rest := []) ⟨hx, hb, hml, hown, hts⟩ (k_X8_clear l D κ β a8 r8 f8_sorts H.size p1 (by omega)) (cwV 1 hts gX11_keep_X8_clear rfl rfl rfl (by decide +kernel) ⟨Nat.le_of_ble_eq_true rfl, Nat.le_of_ble_eq_true rfl⟩) (pk_V hK hS hAB hPc hDc 0 (ci := 8) rfl rfl rfl) rfl rfl hl.1 rfl (lv_room (Nat.le_of_ble_eq_true rfl)) dX11_keep_39 ⟨Nat.le_of_ble_eq_true rfl, Nat.le_of_ble_eq_true rfl⟩) (fun g14 H locs hw hPD hS => ?_)
    obtain ⟨hP, hD⟩ : PD D A [O11 a11 a7 a5 a3 a2 a6 a4 a10 a9 a1 a0 a8 aN, O0 a0 r0 v0_count v0_ran v0_actor, (cI κ (r0 0) 50 f0_kinds), O8 a8 r8, (cI κ (r8 0) 6 g14), (cI κ (r8 2) 6 f8_bodyKinds)] H := hPD
    refine lv_goto (tgt := 62) hx hb dX11_keep_42 (by decide) ?_
    refine lv_iconst (v := 1) hx hb dX11_keep_62 (by decide) ?_
    have hpo : (∀ j : Nat, 0 ≤ (f8_bodyKinds j).toInt ∧ (f8_bodyKinds j).toInt ≤ 7) ∧ (((0 ≤ p1.toInt ∧ p1.toInt ≤ 5 ∧ (p2.toInt = -1 ∨ (0 ≤ p2.toInt ∧ p2.toInt < v0_count.toInt))) ∧ (1 : Int32).toInt = 1) ∨ (¬ (0 ≤ p1.toInt ∧ p1.toInt ≤ 5 ∧ (p2.toInt = -1 ∨ (0 ≤ p2.toInt ∧ p2.toInt < v0_count.toInt))) ∧ (1 : Int32).toInt = -1)) := ⟨hf8_bodyKinds, (by omega)⟩
    exact ret _ _ _ _ 1 (g14, f8_bodyKinds) dX11_keep_63 hpo hP hD hS
  have c5 := ci_ne c5
  refine lv_aload_n hx hb dX11_keep_16 rfl (lv_at hl 0 rfl) ?_
  refine va_get (D := D) (ci := 11) (v := .ref a0) (C := RX11) (T := TX11) (N := 12) hx hb hts w1 hown hK.1 hP 0 rfl rfl 9 (by decide) w2 (fun _ h9 => h9) rfl dX11_keep_17 ?_
  refine lv_iload_n hx hb dX11_keep_20 rfl (lv_at hl 2 rfl) ?_
  refine kcm_i hA hAB hP hD hS [false, true, false, false, false, false] rfl (fun _ => rfl) (fun hPc hDc => va_runV (As := [.int p2]) (rest := []) ⟨hx, hb, hml, hown, hts⟩ (k_X0_isBody l D κ β a0 r0 v0_count v0_ran v0_actor H.size p2 i1 i2 i3) (cwV 1 hts gX11_keep_X0_isBody rfl rfl rfl (by decide +kernel) ⟨Nat.le_of_ble_eq_true rfl, Nat.le_of_ble_eq_true rfl⟩) (pk_V hK hS hAB hPc hDc 0 (ci := 0) rfl rfl rfl) rfl rfl hl.1 rfl (lv_room (Nat.le_of_ble_eq_true rfl)) dX11_keep_21 ⟨Nat.le_of_ble_eq_true rfl, Nat.le_of_ble_eq_true rfl⟩) (fun x15 u16 H locs hw hPD hS => ?_)
  have h17 : (x15.toInt = 1 ∧ 0 ≤ p2.toInt ∧ p2.toInt < v0_count.toInt) ∨ (x15.toInt = 0 ∧ (p2.toInt < 0 ∨ v0_count.toInt ≤ p2.toInt)) := hw
  obtain ⟨hP, hD⟩ : PD D A [O11 a11 a7 a5 a3 a2 a6 a4 a10 a9 a1 a0 a8 aN, O0 a0 r0 v0_count v0_ran v0_actor, (cI κ (r0 0) 50 f0_kinds), O8 a8 r8, (cI κ (r8 0) 6 f8_sorts), (cI κ (r8 2) 6 f8_bodyKinds)] H := hPD
  refine lv_if_ne (tgt := 29) hx hb dX11_keep_24 (by decide) (fun c18 => ?_) (fun c18 => ?_)
  · have c18 := ci_ne c18
    refine lv_iload_n hx hb dX11_keep_29 rfl (lv_at hl 2 rfl) ?_
    refine lv_iconst (v := (-1)) hx hb dX11_keep_30 (by decide) ?_
    refine lv_icmp_ne (tgt := 45) hx hb dX11_keep_31 (by decide) (fun c19 => ?_) (fun c19 => ?_)
    · have c19 := ci_ne c19
      refine lv_aload_n hx hb dX11_keep_45 rfl (lv_at hl 0 rfl) ?_
      refine va_get (D := D) (ci := 11) (v := .ref a8) (C := RX11) (T := TX11) (N := 12) hx hb hts w1 hown hK.1 hP 0 rfl rfl 10 (by decide) w0 (fun _ h9 => h9) rfl dX11_keep_46 ?_
      refine lv_iload_n hx hb dX11_keep_49 rfl (lv_at hl 1 rfl) ?_
      refine lv_aload_n hx hb dX11_keep_50 rfl (lv_at hl 0 rfl) ?_
      refine va_get (D := D) (ci := 11) (v := .ref a0) (C := RX11) (T := TX11) (N := 12) hx hb hts w1 hown hK.1 hP 0 rfl rfl 9 (by decide) w2 (fun _ h9 => h9) rfl dX11_keep_51 ?_
      refine va_get (D := D) (ci := 0) (v := .ref (r0 0)) (C := RX0) (T := TX0) (N := 5) hx hb hts w4 hown hK.1 hP 1 rfl rfl 0 (by decide) w3 (fun _ h9 => h9) rfl dX11_keep_54 ?_
      refine lv_iload_n hx hb dX11_keep_57 rfl (lv_at hl 2 rfl) ?_
      refine va_iald hx hb hK.1 hP 2 1 rfl rfl (i := p2) (ix (by omega) (by omega)) dX11_keep_58 ?_
      refine lv_topi (fun x20 e21 => ?_)
      have h22 : 0 ≤ x20.toInt ∧ x20.toInt ≤ 7 := by rw [e21]; exact hf0_kinds _
      refine kcm_v hA hAB hP hD hS [false, false, false, true, true, true] rfl (fun _ => rfl) (fun hPc hDc => va_runV (As := [.int p1, .int x20]) (rest := []) ⟨hx, hb, hml, hown, hts⟩ (k_X8_layBody l D κ β a8 r8 f8_sorts f8_bodyKinds H.size p1 x20 hf8_bodyKinds (by omega) (by omega)) (cwV 2 hts gX11_keep_X8_layBody rfl rfl rfl (by decide +kernel) ⟨Nat.le_of_ble_eq_true rfl, Nat.le_of_ble_eq_true rfl⟩) (pk_V hK hS hAB hPc hDc 0 (ci := 8) rfl rfl rfl) rfl rfl hl.1 rfl (lv_room (Nat.le_of_ble_eq_true rfl)) dX11_keep_59 ⟨Nat.le_of_ble_eq_true rfl, Nat.le_of_ble_eq_true rfl⟩) (fun u25 H locs hw hPD hS => ?_)
      obtain ⟨g23, g24⟩ := u25
      have h26 : ∀ j : Nat, 0 ≤ (g24 j).toInt ∧ (g24 j).toInt ≤ 7 := hw
      obtain ⟨hP, hD⟩ : PD D A [O11 a11 a7 a5 a3 a2 a6 a4 a10 a9 a1 a0 a8 aN, O0 a0 r0 v0_count v0_ran v0_actor, (cI κ (r0 0) 50 f0_kinds), O8 a8 r8, (cI κ (r8 0) 6 g23), (cI κ (r8 2) 6 g24)] H := hPD
      refine lv_iconst (v := 1) hx hb dX11_keep_62 (by decide) ?_
      have hpo : (∀ j : Nat, 0 ≤ (g24 j).toInt ∧ (g24 j).toInt ≤ 7) ∧ (((0 ≤ p1.toInt ∧ p1.toInt ≤ 5 ∧ (p2.toInt = -1 ∨ (0 ≤ p2.toInt ∧ p2.toInt < v0_count.toInt))) ∧ (1 : Int32).toInt = 1) ∨ (¬ (0 ≤ p1.toInt ∧ p1.toInt ≤ 5 ∧ (p2.toInt = -1 ∨ (0 ≤ p2.toInt ∧ p2.toInt < v0_count.toInt))) ∧ (1 : Int32).toInt = -1)) := ⟨h26, (by omega)⟩
      exact ret _ _ _ _ 1 (g23, g24) dX11_keep_63 hpo hP hD hS
    have c19 := ci_eq c19
    refine lv_aload_n hx hb dX11_keep_34 rfl (lv_at hl 0 rfl) ?_
    refine va_get (D := D) (ci := 11) (v := .ref a8) (C := RX11) (T := TX11) (N := 12) hx hb hts w1 hown hK.1 hP 0 rfl rfl 10 (by decide) w0 (fun _ h9 => h9) rfl dX11_keep_35 ?_
    refine lv_iload_n hx hb dX11_keep_38 rfl (lv_at hl 1 rfl) ?_
    refine kcm_v hA hAB hP hD hS [false, false, false, true, true, false] rfl (fun _ => rfl) (fun hPc hDc => va_runV (As := [.int p1]) (rest := []) ⟨hx, hb, hml, hown, hts⟩ (k_X8_clear l D κ β a8 r8 f8_sorts H.size p1 (by omega)) (cwV 1 hts gX11_keep_X8_clear rfl rfl rfl (by decide +kernel) ⟨Nat.le_of_ble_eq_true rfl, Nat.le_of_ble_eq_true rfl⟩) (pk_V hK hS hAB hPc hDc 0 (ci := 8) rfl rfl rfl) rfl rfl hl.1 rfl (lv_room (Nat.le_of_ble_eq_true rfl)) dX11_keep_39 ⟨Nat.le_of_ble_eq_true rfl, Nat.le_of_ble_eq_true rfl⟩) (fun g27 H locs hw hPD hS => ?_)
    obtain ⟨hP, hD⟩ : PD D A [O11 a11 a7 a5 a3 a2 a6 a4 a10 a9 a1 a0 a8 aN, O0 a0 r0 v0_count v0_ran v0_actor, (cI κ (r0 0) 50 f0_kinds), O8 a8 r8, (cI κ (r8 0) 6 g27), (cI κ (r8 2) 6 f8_bodyKinds)] H := hPD
    refine lv_goto (tgt := 62) hx hb dX11_keep_42 (by decide) ?_
    refine lv_iconst (v := 1) hx hb dX11_keep_62 (by decide) ?_
    have hpo : (∀ j : Nat, 0 ≤ (f8_bodyKinds j).toInt ∧ (f8_bodyKinds j).toInt ≤ 7) ∧ (((0 ≤ p1.toInt ∧ p1.toInt ≤ 5 ∧ (p2.toInt = -1 ∨ (0 ≤ p2.toInt ∧ p2.toInt < v0_count.toInt))) ∧ (1 : Int32).toInt = 1) ∨ (¬ (0 ≤ p1.toInt ∧ p1.toInt ≤ 5 ∧ (p2.toInt = -1 ∨ (0 ≤ p2.toInt ∧ p2.toInt < v0_count.toInt))) ∧ (1 : Int32).toInt = -1)) := ⟨hf8_bodyKinds, (by omega)⟩
    exact ret _ _ _ _ 1 (g27, f8_bodyKinds) dX11_keep_63 hpo hP hD hS
  have c18 := ci_eq c18
  refine lv_iconst (v := (-1)) hx hb dX11_keep_27 (by decide) ?_
  have hpo : (∀ j : Nat, 0 ≤ (f8_bodyKinds j).toInt ∧ (f8_bodyKinds j).toInt ≤ 7) ∧ (((0 ≤ p1.toInt ∧ p1.toInt ≤ 5 ∧ (p2.toInt = -1 ∨ (0 ≤ p2.toInt ∧ p2.toInt < v0_count.toInt))) ∧ ((-1) : Int32).toInt = 1) ∨ (¬ (0 ≤ p1.toInt ∧ p1.toInt ≤ 5 ∧ (p2.toInt = -1 ∨ (0 ≤ p2.toInt ∧ p2.toInt < v0_count.toInt))) ∧ ((-1) : Int32).toInt = -1)) := ⟨hf8_bodyKinds, (by omega)⟩
  exact ret _ _ _ _ (-1) (f8_sorts, f8_bodyKinds) dX11_keep_28 hpo hP hD hS
set_option maxHeartbeats 4000000 in
set_option maxRecDepth 100000 in
theorem k_X11_row (l : Launch) (D : va_G) (κ : Nat → ClassId) (β : Nat) (a11 : Nat) (a7 : Nat) (a5 : Nat) (a3 : Nat) (a2 : Nat) (a6 : Nat) (a4 : Nat) (a10 : Nat) (a9 : Nat) (a1 : Nat) (a0 : Nat) (a8 : Nat) (aN : Nat) (r8 : Nat → Nat) (f8_sorts : Nat → Int32) (f8_lengths : Nat → Int32) (g8 : Nat → Nat) (F8 : Nat → Nat → Int64) (sz : Nat) (p1 : Int32) (p2 : Int32) (p3 : Int32) (hf8_lengths : ∀ j : Nat, 0 ≤ (f8_lengths j).toInt ∧ (f8_lengths j).toInt ≤ 60) : Met l yX11_row wsX11_row ({ frames := 2, cells := 0, slots := 0, locals := 47 } : Room) (PcK D κ β [O11 a11 a7 a5 a3 a2 a6 a4 a10 a9 a1 a0 a8 aN, O8 a8 r8, (cI κ (r8 0) 6 f8_sorts), (cI κ (r8 1) 6 f8_lengths), (cRJ κ (r8 3) 6 (fun i => some (g8 i))), (cJ κ (g8 0) 60 (F8 0)), (cJ κ (g8 1) 60 (F8 1)), (cJ κ (g8 2) 60 (F8 2)), (cJ κ (g8 3) 60 (F8 3)), (cJ κ (g8 4) 60 (F8 4)), (cJ κ (g8 5) 60 (F8 5))] sz [.ref a11, .int p1, .int p2, .int p3]) (QiK D (fun (r : Int32) (u : (Nat → Int32) × (Nat → Int32) × (Nat → Nat → Int64)) => (∀ j : Nat, 0 ≤ (u.2.1 j).toInt ∧ (u.2.1 j).toInt ≤ 60) ∧ ((¬ (0 ≤ p1.toInt ∧ p1.toInt ≤ 5 ∧ 0 ≤ p2.toInt ∧ p2.toInt ≤ 4 ∧ p3.toInt ≤ 60) ∧ r.toInt = -1) ∨ ((0 ≤ p1.toInt ∧ p1.toInt ≤ 5 ∧ 0 ≤ p2.toInt ∧ p2.toInt ≤ 4 ∧ p3.toInt ≤ 60) ∧ p3.toInt < 0 ∧ r.toInt = -14) ∨ ((0 ≤ p1.toInt ∧ p1.toInt ≤ 5 ∧ 0 ≤ p2.toInt ∧ p2.toInt ≤ 4 ∧ p3.toInt ≤ 60) ∧ 0 ≤ p3.toInt ∧ r.toInt = 1))) (fun (u : (Nat → Int32) × (Nat → Int32) × (Nat → Nat → Int64)) => [O11 a11 a7 a5 a3 a2 a6 a4 a10 a9 a1 a0 a8 aN, O8 a8 r8, (cI κ (r8 0) 6 u.1), (cI κ (r8 1) 6 u.2.1), (cRJ κ (r8 3) 6 (fun i => some (g8 i))), (cJ κ (g8 0) 60 (u.2.2 0)), (cJ κ (g8 1) 60 (u.2.2 1)), (cJ κ (g8 2) 60 (u.2.2 2)), (cJ κ (g8 3) 60 (u.2.2 3)), (cJ κ (g8 4) 60 (u.2.2 4)), (cJ κ (g8 5) 60 (u.2.2 5))]) [O11 a11 a7 a5 a3 a2 a6 a4 a10 a9 a1 a0 a8 aN, O8 a8 r8, (cI κ (r8 0) 6 f8_sorts), (cI κ (r8 1) 6 f8_lengths), (cRJ κ (r8 3) 6 (fun i => some (g8 i))), (cJ κ (g8 0) 60 (F8 0)), (cJ κ (g8 1) 60 (F8 1)), (cJ κ (g8 2) 60 (F8 2)), (cJ κ (g8 3) 60 (F8 3)), (cJ κ (g8 4) 60 (F8 4)), (cJ κ (g8 5) 60 (F8 5))] sz) 0 0 (va_A [O11 a11 a7 a5 a3 a2 a6 a4 a10 a9 a1 a0 a8 aN, O8 a8 r8, (cI κ (r8 0) 6 f8_sorts), (cI κ (r8 1) 6 f8_lengths), (cRJ κ (r8 3) 6 (fun i => some (g8 i))), (cJ κ (g8 0) 60 (F8 0)), (cJ κ (g8 1) 60 (F8 1)), (cJ κ (g8 2) 60 (F8 2)), (cJ κ (g8 3) 60 (F8 3)), (cJ κ (g8 4) 60 (F8 4)), (cJ κ (g8 5) 60 (F8 5))] sz) := by
  refine ofK_i (cc := cX11_row) (maxL := 4) (own := RX11) (by decide) rfl rfl (Nat.le_of_ble_eq_true rfl) ?_
  intro p e s m args below meth c Q A ls hsz hx hb hml hts hown hK hA hAB hP hD hl ret
  have hS : va_S A s.heap s.heap [] := va_S.rf
  have hl : lv_has ls 4 [(0, .ref a11), (1, .int p1), (2, .int p2), (3, .int p3)] := hl
  have w0 := hts (.fieldLink RX11 82 "OlderSkin" "shelves" "LOlderSkin$Shelves;") (List.mem_of_getElem? (i := 1) rfl)
  have w1 := (fun w h => List.mem_cons_of_mem _ (List.mem_append_left _ (List.mem_append_right _ h)) : ∀ w ∈ u_ws RX11 TX11 12, w ∈ wsX11_row)
  have l0 : (0 : Int32).toInt = 0 := by decide
  have l1 : ((-1) : Int32).toInt = -1 := by decide
  have l2 : (4 : Int32).toInt = 4 := by decide
  have l3 : (60 : Int32).toInt = 60 := by decide
  have l4 : (1 : Int32).toInt = 1 := by decide
  have l5 : ((-14) : Int32).toInt = -14 := by decide
  refine lv_aload_n hx hb dX11_row_0 rfl (lv_at hl 0 rfl) ?_
  refine va_get (D := D) (ci := 11) (v := .ref a8) (C := RX11) (T := TX11) (N := 12) hx hb hts w1 hown hK.1 hP 0 rfl rfl 10 (by decide) w0 (fun _ h9 => h9) rfl dX11_row_1 ?_
  refine lv_iload_n hx hb dX11_row_4 rfl (lv_at hl 1 rfl) ?_
  refine kcm_i hA hAB hP hD hS [false, true, true, false, false, false, false, false, false, false, false] rfl (fun _ => rfl) (fun hPc hDc => va_runV (As := [.int p1]) (rest := []) ⟨hx, hb, hml, hown, hts⟩ (k_X8_isShelf l D κ β a8 r8 f8_sorts s.heap.size p1) (cwV 1 hts gX11_row_X8_isShelf rfl rfl rfl (by decide +kernel) ⟨Nat.le_of_ble_eq_true rfl, Nat.le_of_ble_eq_true rfl⟩) (pk_V hK hS hAB hPc hDc 0 (ci := 8) rfl rfl rfl) rfl rfl hl.1 rfl (lv_room (Nat.le_of_ble_eq_true rfl)) dX11_row_5 ⟨Nat.le_of_ble_eq_true rfl, Nat.le_of_ble_eq_true rfl⟩) (fun x1 u2 H locs hw hPD hS => ?_)
  have h3 : (x1.toInt = 1 ∧ 0 ≤ p1.toInt ∧ p1.toInt ≤ 5) ∨ (x1.toInt = 0 ∧ (p1.toInt < 0 ∨ 5 < p1.toInt)) := hw
  obtain ⟨hP, hD⟩ : PD D A [O11 a11 a7 a5 a3 a2 a6 a4 a10 a9 a1 a0 a8 aN, O8 a8 r8, (cI κ (r8 0) 6 f8_sorts), (cI κ (r8 1) 6 f8_lengths), (cRJ κ (r8 3) 6 (fun i => some (g8 i))), (cJ κ (g8 0) 60 (F8 0)), (cJ κ (g8 1) 60 (F8 1)), (cJ κ (g8 2) 60 (F8 2)), (cJ κ (g8 3) 60 (F8 3)), (cJ κ (g8 4) 60 (F8 4)), (cJ κ (g8 5) 60 (F8 5))] H := hPD
  refine lv_if_eq (tgt := 26) hx hb dX11_row_8 (by decide) (fun c4 => ?_) (fun c4 => ?_)
  · have c4 := ci_eq c4
    refine lv_iconst (v := (-1)) hx hb dX11_row_26 (by decide) ?_
    have hpo : (∀ j : Nat, 0 ≤ (f8_lengths j).toInt ∧ (f8_lengths j).toInt ≤ 60) ∧ ((¬ (0 ≤ p1.toInt ∧ p1.toInt ≤ 5 ∧ 0 ≤ p2.toInt ∧ p2.toInt ≤ 4 ∧ p3.toInt ≤ 60) ∧ ((-1) : Int32).toInt = -1) ∨ ((0 ≤ p1.toInt ∧ p1.toInt ≤ 5 ∧ 0 ≤ p2.toInt ∧ p2.toInt ≤ 4 ∧ p3.toInt ≤ 60) ∧ p3.toInt < 0 ∧ ((-1) : Int32).toInt = -14) ∨ ((0 ≤ p1.toInt ∧ p1.toInt ≤ 5 ∧ 0 ≤ p2.toInt ∧ p2.toInt ≤ 4 ∧ p3.toInt ≤ 60) ∧ 0 ≤ p3.toInt ∧ ((-1) : Int32).toInt = 1)) := ⟨hf8_lengths, (by omega)⟩
    exact ret _ _ _ _ (-1) (f8_sorts, f8_lengths, F8) dX11_row_27 hpo hP hD hS
  have c4 := ci_ne c4
  refine lv_iload_n hx hb dX11_row_11 rfl (lv_at hl 2 rfl) ?_
  refine lv_iconst (v := 0) hx hb dX11_row_12 (by decide) ?_
  refine lv_iconst (v := 4) hx hb dX11_row_13 (by decide) ?_
  refine kcm_i hA hAB hP hD hS [false, false, false, false, false, false, false, false, false, false, false] rfl (fun _ => rfl) (fun hPc hDc => va_runS (As := [.int p2, .int 0, .int 4]) (rest := []) ⟨hx, hb, hml, hown, hts⟩ (k_X11_within l D κ β H.size p2 0 4) (va_cwS 3 hts gX11_row_X11_within rfl rfl rfl (by decide +kernel) ⟨Nat.le_of_ble_eq_true rfl, Nat.le_of_ble_eq_true rfl⟩) (pk_S hK hS hAB hPc hDc) rfl rfl hl.1 rfl (lv_room (Nat.le_of_ble_eq_true rfl)) dX11_row_14 ⟨Nat.le_of_ble_eq_true rfl, Nat.le_of_ble_eq_true rfl⟩) (fun x5 u6 H locs hw hPD hS => ?_)
  have h7 : (x5.toInt = 1 ∧ (0 : Int32).toInt ≤ p2.toInt ∧ p2.toInt ≤ (4 : Int32).toInt) ∨ (x5.toInt = 0 ∧ (p2.toInt < (0 : Int32).toInt ∨ (4 : Int32).toInt < p2.toInt)) := hw
  obtain ⟨hP, hD⟩ : PD D A [O11 a11 a7 a5 a3 a2 a6 a4 a10 a9 a1 a0 a8 aN, O8 a8 r8, (cI κ (r8 0) 6 f8_sorts), (cI κ (r8 1) 6 f8_lengths), (cRJ κ (r8 3) 6 (fun i => some (g8 i))), (cJ κ (g8 0) 60 (F8 0)), (cJ κ (g8 1) 60 (F8 1)), (cJ κ (g8 2) 60 (F8 2)), (cJ κ (g8 3) 60 (F8 3)), (cJ κ (g8 4) 60 (F8 4)), (cJ κ (g8 5) 60 (F8 5))] H := hPD
  refine lv_if_eq (tgt := 26) hx hb dX11_row_17 (by decide) (fun c8 => ?_) (fun c8 => ?_)
  · have c8 := ci_eq c8
    refine lv_iconst (v := (-1)) hx hb dX11_row_26 (by decide) ?_
    have hpo : (∀ j : Nat, 0 ≤ (f8_lengths j).toInt ∧ (f8_lengths j).toInt ≤ 60) ∧ ((¬ (0 ≤ p1.toInt ∧ p1.toInt ≤ 5 ∧ 0 ≤ p2.toInt ∧ p2.toInt ≤ 4 ∧ p3.toInt ≤ 60) ∧ ((-1) : Int32).toInt = -1) ∨ ((0 ≤ p1.toInt ∧ p1.toInt ≤ 5 ∧ 0 ≤ p2.toInt ∧ p2.toInt ≤ 4 ∧ p3.toInt ≤ 60) ∧ p3.toInt < 0 ∧ ((-1) : Int32).toInt = -14) ∨ ((0 ≤ p1.toInt ∧ p1.toInt ≤ 5 ∧ 0 ≤ p2.toInt ∧ p2.toInt ≤ 4 ∧ p3.toInt ≤ 60) ∧ 0 ≤ p3.toInt ∧ ((-1) : Int32).toInt = 1)) := ⟨hf8_lengths, (by omega)⟩
    exact ret _ _ _ _ (-1) (f8_sorts, f8_lengths, F8) dX11_row_27 hpo hP hD hS
  have c8 := ci_ne c8
  refine lv_iload_n hx hb dX11_row_20 rfl (lv_at hl 3 rfl) ?_
  refine lv_bipush (v := 60) hx hb dX11_row_21 (by decide) ?_
  refine lv_icmp_le (tgt := 28) hx hb dX11_row_23 (by decide) (fun c9 => ?_) (fun c9 => ?_)
  · have c9 := ci_le c9
    refine lv_iload_n hx hb dX11_row_28 rfl (lv_at hl 3 rfl) ?_
    refine lv_if_ge (tgt := 35) hx hb dX11_row_29 (by decide) (fun c10 => ?_) (fun c10 => ?_)
    · have c10 := ci_le c10
      refine lv_aload_n hx hb dX11_row_35 rfl (lv_at hl 0 rfl) ?_
      refine va_get (D := D) (ci := 11) (v := .ref a8) (C := RX11) (T := TX11) (N := 12) hx hb hts w1 hown hK.1 hP 0 rfl rfl 10 (by decide) w0 (fun _ h9 => h9) rfl dX11_row_36 ?_
      refine lv_iload_n hx hb dX11_row_39 rfl (lv_at hl 1 rfl) ?_
      refine lv_iload_n hx hb dX11_row_40 rfl (lv_at hl 2 rfl) ?_
      refine lv_iload_n hx hb dX11_row_41 rfl (lv_at hl 3 rfl) ?_
      refine kcm_v hA hAB hP hD hS [false, true, true, true, true, true, true, true, true, true, true] rfl (fun _ => rfl) (fun hPc hDc => va_runV (As := [.int p1, .int p2, .int p3]) (rest := []) ⟨hx, hb, hml, hown, hts⟩ (k_X8_layRow l D κ β a8 r8 f8_sorts f8_lengths g8 F8 H.size p1 p2 p3 hf8_lengths (by omega) (by omega)) (cwV 3 hts gX11_row_X8_layRow rfl rfl rfl (by decide +kernel) ⟨Nat.le_of_ble_eq_true rfl, Nat.le_of_ble_eq_true rfl⟩) (pk_V hK hS hAB hPc hDc 0 (ci := 8) rfl rfl rfl) rfl rfl hl.1 rfl (lv_room (Nat.le_of_ble_eq_true rfl)) dX11_row_42 ⟨Nat.le_of_ble_eq_true rfl, Nat.le_of_ble_eq_true rfl⟩) (fun u14 H locs hw hPD hS => ?_)
      obtain ⟨g11, g12, g13⟩ := u14
      have h15 : ∀ j : Nat, 0 ≤ (g12 j).toInt ∧ (g12 j).toInt ≤ 60 := hw
      obtain ⟨hP, hD⟩ : PD D A [O11 a11 a7 a5 a3 a2 a6 a4 a10 a9 a1 a0 a8 aN, O8 a8 r8, (cI κ (r8 0) 6 g11), (cI κ (r8 1) 6 g12), (cRJ κ (r8 3) 6 (fun i => some (g8 i))), (cJ κ (g8 0) 60 (g13 0)), (cJ κ (g8 1) 60 (g13 1)), (cJ κ (g8 2) 60 (g13 2)), (cJ κ (g8 3) 60 (g13 3)), (cJ κ (g8 4) 60 (g13 4)), (cJ κ (g8 5) 60 (g13 5))] H := hPD
      refine lv_iconst (v := 1) hx hb dX11_row_45 (by decide) ?_
      have hpo : (∀ j : Nat, 0 ≤ (g12 j).toInt ∧ (g12 j).toInt ≤ 60) ∧ ((¬ (0 ≤ p1.toInt ∧ p1.toInt ≤ 5 ∧ 0 ≤ p2.toInt ∧ p2.toInt ≤ 4 ∧ p3.toInt ≤ 60) ∧ (1 : Int32).toInt = -1) ∨ ((0 ≤ p1.toInt ∧ p1.toInt ≤ 5 ∧ 0 ≤ p2.toInt ∧ p2.toInt ≤ 4 ∧ p3.toInt ≤ 60) ∧ p3.toInt < 0 ∧ (1 : Int32).toInt = -14) ∨ ((0 ≤ p1.toInt ∧ p1.toInt ≤ 5 ∧ 0 ≤ p2.toInt ∧ p2.toInt ≤ 4 ∧ p3.toInt ≤ 60) ∧ 0 ≤ p3.toInt ∧ (1 : Int32).toInt = 1)) := ⟨h15, (by omega)⟩
      exact ret _ _ _ _ 1 (g11, g12, g13) dX11_row_46 hpo hP hD hS
    have c10 := ci_nle c10
    refine lv_bipush (v := (-14)) hx hb dX11_row_32 (by decide) ?_
    have hpo : (∀ j : Nat, 0 ≤ (f8_lengths j).toInt ∧ (f8_lengths j).toInt ≤ 60) ∧ ((¬ (0 ≤ p1.toInt ∧ p1.toInt ≤ 5 ∧ 0 ≤ p2.toInt ∧ p2.toInt ≤ 4 ∧ p3.toInt ≤ 60) ∧ ((-14) : Int32).toInt = -1) ∨ ((0 ≤ p1.toInt ∧ p1.toInt ≤ 5 ∧ 0 ≤ p2.toInt ∧ p2.toInt ≤ 4 ∧ p3.toInt ≤ 60) ∧ p3.toInt < 0 ∧ ((-14) : Int32).toInt = -14) ∨ ((0 ≤ p1.toInt ∧ p1.toInt ≤ 5 ∧ 0 ≤ p2.toInt ∧ p2.toInt ≤ 4 ∧ p3.toInt ≤ 60) ∧ 0 ≤ p3.toInt ∧ ((-14) : Int32).toInt = 1)) := ⟨hf8_lengths, (by omega)⟩
    exact ret _ _ _ _ (-14) (f8_sorts, f8_lengths, F8) dX11_row_34 hpo hP hD hS
  have c9 := ci_nle c9
  refine lv_iconst (v := (-1)) hx hb dX11_row_26 (by decide) ?_
  have hpo : (∀ j : Nat, 0 ≤ (f8_lengths j).toInt ∧ (f8_lengths j).toInt ≤ 60) ∧ ((¬ (0 ≤ p1.toInt ∧ p1.toInt ≤ 5 ∧ 0 ≤ p2.toInt ∧ p2.toInt ≤ 4 ∧ p3.toInt ≤ 60) ∧ ((-1) : Int32).toInt = -1) ∨ ((0 ≤ p1.toInt ∧ p1.toInt ≤ 5 ∧ 0 ≤ p2.toInt ∧ p2.toInt ≤ 4 ∧ p3.toInt ≤ 60) ∧ p3.toInt < 0 ∧ ((-1) : Int32).toInt = -14) ∨ ((0 ≤ p1.toInt ∧ p1.toInt ≤ 5 ∧ 0 ≤ p2.toInt ∧ p2.toInt ≤ 4 ∧ p3.toInt ≤ 60) ∧ 0 ≤ p3.toInt ∧ ((-1) : Int32).toInt = 1)) := ⟨hf8_lengths, (by omega)⟩
  exact ret _ _ _ _ (-1) (f8_sorts, f8_lengths, F8) dX11_row_27 hpo hP hD hS
set_option maxHeartbeats 4000000 in
set_option maxRecDepth 100000 in
theorem k_X11_put (l : Launch) (D : va_G) (κ : Nat → ClassId) (β : Nat) (a11 : Nat) (a7 : Nat) (a5 : Nat) (a3 : Nat) (a2 : Nat) (a6 : Nat) (a4 : Nat) (a10 : Nat) (a9 : Nat) (a1 : Nat) (a0 : Nat) (a8 : Nat) (aN : Nat) (r8 : Nat → Nat) (f8_sorts : Nat → Int32) (f8_lengths : Nat → Int32) (g8 : Nat → Nat) (F8 : Nat → Nat → Int64) (sz : Nat) (p1 : Int32) (p2 : Int32) (p3 : Int64) (hf8_lengths : ∀ j : Nat, 0 ≤ (f8_lengths j).toInt ∧ (f8_lengths j).toInt ≤ 60) : Met l yX11_put wsX11_put ({ frames := 3, cells := 0, slots := 0, locals := 65 } : Room) (PcK D κ β [O11 a11 a7 a5 a3 a2 a6 a4 a10 a9 a1 a0 a8 aN, O8 a8 r8, (cI κ (r8 0) 6 f8_sorts), (cI κ (r8 1) 6 f8_lengths), (cRJ κ (r8 3) 6 (fun i => some (g8 i))), (cJ κ (g8 0) 60 (F8 0)), (cJ κ (g8 1) 60 (F8 1)), (cJ κ (g8 2) 60 (F8 2)), (cJ κ (g8 3) 60 (F8 3)), (cJ κ (g8 4) 60 (F8 4)), (cJ κ (g8 5) 60 (F8 5))] sz [.ref a11, .int p1, .int p2, .long p3]) (QiK D (fun (r : Int32) (u : (Nat → Nat → Int64)) => True) (fun (u : (Nat → Nat → Int64)) => [O11 a11 a7 a5 a3 a2 a6 a4 a10 a9 a1 a0 a8 aN, O8 a8 r8, (cI κ (r8 0) 6 f8_sorts), (cI κ (r8 1) 6 f8_lengths), (cRJ κ (r8 3) 6 (fun i => some (g8 i))), (cJ κ (g8 0) 60 (u 0)), (cJ κ (g8 1) 60 (u 1)), (cJ κ (g8 2) 60 (u 2)), (cJ κ (g8 3) 60 (u 3)), (cJ κ (g8 4) 60 (u 4)), (cJ κ (g8 5) 60 (u 5))]) [O11 a11 a7 a5 a3 a2 a6 a4 a10 a9 a1 a0 a8 aN, O8 a8 r8, (cI κ (r8 0) 6 f8_sorts), (cI κ (r8 1) 6 f8_lengths), (cRJ κ (r8 3) 6 (fun i => some (g8 i))), (cJ κ (g8 0) 60 (F8 0)), (cJ κ (g8 1) 60 (F8 1)), (cJ κ (g8 2) 60 (F8 2)), (cJ κ (g8 3) 60 (F8 3)), (cJ κ (g8 4) 60 (F8 4)), (cJ κ (g8 5) 60 (F8 5))] sz) 0 0 (va_A [O11 a11 a7 a5 a3 a2 a6 a4 a10 a9 a1 a0 a8 aN, O8 a8 r8, (cI κ (r8 0) 6 f8_sorts), (cI κ (r8 1) 6 f8_lengths), (cRJ κ (r8 3) 6 (fun i => some (g8 i))), (cJ κ (g8 0) 60 (F8 0)), (cJ κ (g8 1) 60 (F8 1)), (cJ κ (g8 2) 60 (F8 2)), (cJ κ (g8 3) 60 (F8 3)), (cJ κ (g8 4) 60 (F8 4)), (cJ κ (g8 5) 60 (F8 5))] sz) := by
  refine ofK_i (cc := cX11_put) (maxL := 6) (own := RX11) (by decide) rfl rfl (Nat.le_of_ble_eq_true rfl) ?_
  intro p e s m args below meth c Q A ls hsz hx hb hml hts hown hK hA hAB hP hD hl ret
  have hS : va_S A s.heap s.heap [] := va_S.rf
  have hl : lv_has ls 6 [(0, .ref a11), (1, .int p1), (2, .int p2), (3, .long p3)] := hl
  have w0 := hts (.fieldLink RX11 82 "OlderSkin" "shelves" "LOlderSkin$Shelves;") (List.mem_of_getElem? (i := 1) rfl)
  have w1 := (fun w h => List.mem_cons_of_mem _ (List.mem_append_left _ (List.mem_append_right _ h)) : ∀ w ∈ u_ws RX11 TX11 12, w ∈ wsX11_put)
  have w2 := hts (.fieldLink RX11 240 "OlderSkin$Shelves" "values" "[[J") (List.mem_of_getElem? (i := 2) rfl)
  have w3 := (fun w h => List.mem_cons_of_mem _ (List.mem_append_right _ h) : ∀ w ∈ u_ws RX8 TX8 4, w ∈ wsX11_put)
  have l0 : (0 : Int32).toInt = 0 := by decide
  have l1 : (1 : Int32).toInt = 1 := by decide
  refine lv_aload_n hx hb dX11_put_0 rfl (lv_at hl 0 rfl) ?_
  refine va_get (D := D) (ci := 11) (v := .ref a8) (C := RX11) (T := TX11) (N := 12) hx hb hts w1 hown hK.1 hP 0 rfl rfl 10 (by decide) w0 (fun _ h9 => h9) rfl dX11_put_1 ?_
  refine lv_iload_n hx hb dX11_put_4 rfl (lv_at hl 1 rfl) ?_
  refine lv_iload_n hx hb dX11_put_5 rfl (lv_at hl 2 rfl) ?_
  refine kcm_i hA hAB hP hD hS [false, true, true, true, false, false, false, false, false, false, false] rfl (fun _ => rfl) (fun hPc hDc => va_runV (As := [.int p1, .int p2]) (rest := []) ⟨hx, hb, hml, hown, hts⟩ (k_X8_refusal l D κ β a8 r8 f8_sorts f8_lengths s.heap.size p1 p2 hf8_lengths) (cwV 2 hts gX11_put_X8_refusal rfl rfl rfl (by decide +kernel) ⟨Nat.le_of_ble_eq_true rfl, Nat.le_of_ble_eq_true rfl⟩) (pk_V hK hS hAB hPc hDc 0 (ci := 8) rfl rfl rfl) rfl rfl hl.1 rfl (lv_room (Nat.le_of_ble_eq_true rfl)) dX11_put_6 ⟨Nat.le_of_ble_eq_true rfl, Nat.le_of_ble_eq_true rfl⟩) (fun x1 u2 H locs hw hPD hS => ?_)
  have h3 : x1.toInt ≠ 0 ∨ (0 ≤ p1.toInt ∧ p1.toInt ≤ 5 ∧ 0 ≤ p2.toInt ∧ p2.toInt ≤ 59) := hw
  obtain ⟨hP, hD⟩ : PD D A [O11 a11 a7 a5 a3 a2 a6 a4 a10 a9 a1 a0 a8 aN, O8 a8 r8, (cI κ (r8 0) 6 f8_sorts), (cI κ (r8 1) 6 f8_lengths), (cRJ κ (r8 3) 6 (fun i => some (g8 i))), (cJ κ (g8 0) 60 (F8 0)), (cJ κ (g8 1) 60 (F8 1)), (cJ κ (g8 2) 60 (F8 2)), (cJ κ (g8 3) 60 (F8 3)), (cJ κ (g8 4) 60 (F8 4)), (cJ κ (g8 5) 60 (F8 5))] H := hPD
  refine lv_istore (lv' := [(5, .int x1), (0, .ref a11), (1, .int p1), (2, .int p2), (3, .long p3)]) hx hb dX11_put_9 hl (by decide) rfl (fun ls hl => ?_)
  refine lv_iload hx hb dX11_put_11 (lv_at hl 0 rfl) ?_
  refine lv_if_eq (tgt := 19) hx hb dX11_put_13 (by decide) (fun c4 => ?_) (fun c4 => ?_)
  · have c4 := ci_eq c4
    refine lv_aload_n hx hb dX11_put_19 rfl (lv_at hl 1 rfl) ?_
    refine va_get (D := D) (ci := 11) (v := .ref a8) (C := RX11) (T := TX11) (N := 12) hx hb hts w1 hown hK.1 hP 0 rfl rfl 10 (by decide) w0 (fun _ h9 => h9) rfl dX11_put_20 ?_
    refine va_get (D := D) (ci := 8) (v := .ref (r8 3)) (C := RX8) (T := TX8) (N := 4) hx hb hts w3 hown hK.1 hP 1 rfl rfl 3 (by decide) w2 (fun _ h9 => h9) rfl dX11_put_23 ?_
    refine lv_iload_n hx hb dX11_put_26 rfl (lv_at hl 2 rfl) ?_
    obtain ⟨j5, hj5, ej5⟩ : ∃ y : Nat, y < 6 ∧ p1.toNatClampNeg = y := ⟨_, by have := ci_clamp (i := p1) (by omega); omega, rfl⟩
    refine va_aldG rfl hx hb hK.1 hP 4 5 rfl rfl (i := p1) (j := j5) ej5 (ix (by omega) (by omega)) dX11_put_27 ?_
    refine lv_iload_n hx hb dX11_put_28 rfl (lv_at hl 3 rfl) ?_
    refine lv_aload_n hx hb dX11_put_29 rfl (lv_at hl 1 rfl) ?_
    refine va_get (D := D) (ci := 11) (v := .ref a8) (C := RX11) (T := TX11) (N := 12) hx hb hts w1 hown hK.1 hP 0 rfl rfl 10 (by decide) w0 (fun _ h9 => h9) rfl dX11_put_30 ?_
    refine lv_iload_n hx hb dX11_put_33 rfl (lv_at hl 2 rfl) ?_
    refine lv_lload_n hx hb dX11_put_34 rfl (lv_at hl 4 rfl) ?_
    refine kcm_l hA hAB hP hD hS [false, true, true, false, false, false, false, false, false, false, false] rfl (fun _ => rfl) (fun hPc hDc => va_runV (As := [.int p1, .long p3]) (rest := [.int p2, .ref (g8 j5)]) ⟨hx, hb, hml, hown, hts⟩ (k_X8_lowBits l D κ β a8 r8 f8_sorts H.size p1 p3 (by omega)) (cwV 2 hts gX11_put_X8_lowBits rfl rfl rfl (by decide +kernel) ⟨Nat.le_of_ble_eq_true rfl, Nat.le_of_ble_eq_true rfl⟩) (pk_V hK hS hAB hPc hDc 0 (ci := 8) rfl rfl rfl) rfl rfl hl.1 rfl (lv_room (Nat.le_of_ble_eq_true rfl)) dX11_put_35 ⟨Nat.le_of_ble_eq_true rfl, Nat.le_of_ble_eq_true rfl⟩) (fun x6 u7 H locs hw hPD hS => ?_)
    obtain ⟨hP, hD⟩ : PD D A [O11 a11 a7 a5 a3 a2 a6 a4 a10 a9 a1 a0 a8 aN, O8 a8 r8, (cI κ (r8 0) 6 f8_sorts), (cI κ (r8 1) 6 f8_lengths), (cRJ κ (r8 3) 6 (fun i => some (g8 i))), (cJ κ (g8 0) 60 (F8 0)), (cJ κ (g8 1) 60 (F8 1)), (cJ κ (g8 2) 60 (F8 2)), (cJ κ (g8 3) 60 (F8 3)), (cJ κ (g8 4) 60 (F8 4)), (cJ κ (g8 5) 60 (F8 5))] H := hPD
    have hw8 : ([O11 a11 a7 a5 a3 a2 a6 a4 a10 a9 a1 a0 a8 aN, O8 a8 r8, (cI κ (r8 0) 6 f8_sorts), (cI κ (r8 1) 6 f8_lengths), (cRJ κ (r8 3) 6 (fun i => some (g8 i))), (cJ κ (g8 0) 60 (F8 0)), (cJ κ (g8 1) 60 (F8 1)), (cJ κ (g8 2) 60 (F8 2)), (cJ κ (g8 3) 60 (F8 3)), (cJ κ (g8 4) 60 (F8 4)), (cJ κ (g8 5) 60 (F8 5))] : va_W)[5 + j5]? = some (g8 j5, .inl (κ 2, 60, .inr (.inl (F8 j5)))) := by rcases six hj5 with h | h | h | h | h | h <;> (subst h; rfl)
    refine va_last hx hb hK.1 hP hD hS (5 + j5) 2 hw8 rfl (i := p2) (ix (by omega) (by omega)) dX11_put_38 (fun H locs hP hD hS => ?_)
    obtain ⟨F9, e10⟩ : ∃ y : Nat → Nat → Int64, y = upF F8 j5 (vp_updL (F8 j5) p2.toNatClampNeg x6) := ⟨_, rfl⟩
    have hP : va_P D vwCl [O11 a11 a7 a5 a3 a2 a6 a4 a10 a9 a1 a0 a8 aN, O8 a8 r8, (cI κ (r8 0) 6 f8_sorts), (cI κ (r8 1) 6 f8_lengths), (cRJ κ (r8 3) 6 (fun i => some (g8 i))), (cJ κ (g8 0) 60 (F9 0)), (cJ κ (g8 1) 60 (F9 1)), (cJ κ (g8 2) 60 (F9 2)), (cJ κ (g8 3) 60 (F9 3)), (cJ κ (g8 4) 60 (F9 4)), (cJ κ (g8 5) 60 (F9 5))] H := by rw [e10]; rcases six hj5 with h | h | h | h | h | h <;> (subst h; exact hP)
    have hD : va_D A [O11 a11 a7 a5 a3 a2 a6 a4 a10 a9 a1 a0 a8 aN, O8 a8 r8, (cI κ (r8 0) 6 f8_sorts), (cI κ (r8 1) 6 f8_lengths), (cRJ κ (r8 3) 6 (fun i => some (g8 i))), (cJ κ (g8 0) 60 (F9 0)), (cJ κ (g8 1) 60 (F9 1)), (cJ κ (g8 2) 60 (F9 2)), (cJ κ (g8 3) 60 (F9 3)), (cJ κ (g8 4) 60 (F9 4)), (cJ κ (g8 5) 60 (F9 5))] := by rw [e10]; rcases six hj5 with h | h | h | h | h | h <;> (subst h; exact hD)
    refine lv_iconst (v := 1) hx hb dX11_put_39 (by decide) ?_
    exact ret _ _ _ _ 1 F9 dX11_put_40 trivial hP hD hS
  have c4 := ci_ne c4
  refine lv_iload hx hb dX11_put_16 (lv_at hl 0 rfl) ?_
  exact ret _ _ _ _ x1 F8 dX11_put_18 trivial hP hD hS
set_option maxHeartbeats 4000000 in
set_option maxRecDepth 100000 in
theorem k_X11_element (l : Launch) (D : va_G) (κ : Nat → ClassId) (β : Nat) (a11 : Nat) (a7 : Nat) (a5 : Nat) (a3 : Nat) (a2 : Nat) (a6 : Nat) (a4 : Nat) (a10 : Nat) (a9 : Nat) (a1 : Nat) (a0 : Nat) (a8 : Nat) (aN : Nat) (r8 : Nat → Nat) (f8_sorts : Nat → Int32) (f8_lengths : Nat → Int32) (g8 : Nat → Nat) (F8 : Nat → Nat → Int64) (sz : Nat) (p1 : Int32) (p2 : Int32) (hf8_lengths : ∀ j : Nat, 0 ≤ (f8_lengths j).toInt ∧ (f8_lengths j).toInt ≤ 60) : Met l yX11_element wsX11_element ({ frames := 3, cells := 0, slots := 0, locals := 65 } : Room) (PcK D κ β [O11 a11 a7 a5 a3 a2 a6 a4 a10 a9 a1 a0 a8 aN, O8 a8 r8, (cI κ (r8 0) 6 f8_sorts), (cI κ (r8 1) 6 f8_lengths), (cRJ κ (r8 3) 6 (fun i => some (g8 i))), (cJ κ (g8 0) 60 (F8 0)), (cJ κ (g8 1) 60 (F8 1)), (cJ κ (g8 2) 60 (F8 2)), (cJ κ (g8 3) 60 (F8 3)), (cJ κ (g8 4) 60 (F8 4)), (cJ κ (g8 5) 60 (F8 5))] sz [.ref a11, .int p1, .int p2]) (QlK D (fun (r : Int64) (u : Unit) => True) (fun (u : Unit) => [O11 a11 a7 a5 a3 a2 a6 a4 a10 a9 a1 a0 a8 aN, O8 a8 r8, (cI κ (r8 0) 6 f8_sorts), (cI κ (r8 1) 6 f8_lengths), (cRJ κ (r8 3) 6 (fun i => some (g8 i))), (cJ κ (g8 0) 60 (F8 0)), (cJ κ (g8 1) 60 (F8 1)), (cJ κ (g8 2) 60 (F8 2)), (cJ κ (g8 3) 60 (F8 3)), (cJ κ (g8 4) 60 (F8 4)), (cJ κ (g8 5) 60 (F8 5))]) [O11 a11 a7 a5 a3 a2 a6 a4 a10 a9 a1 a0 a8 aN, O8 a8 r8, (cI κ (r8 0) 6 f8_sorts), (cI κ (r8 1) 6 f8_lengths), (cRJ κ (r8 3) 6 (fun i => some (g8 i))), (cJ κ (g8 0) 60 (F8 0)), (cJ κ (g8 1) 60 (F8 1)), (cJ κ (g8 2) 60 (F8 2)), (cJ κ (g8 3) 60 (F8 3)), (cJ κ (g8 4) 60 (F8 4)), (cJ κ (g8 5) 60 (F8 5))] sz) 0 0 (va_A [O11 a11 a7 a5 a3 a2 a6 a4 a10 a9 a1 a0 a8 aN, O8 a8 r8, (cI κ (r8 0) 6 f8_sorts), (cI κ (r8 1) 6 f8_lengths), (cRJ κ (r8 3) 6 (fun i => some (g8 i))), (cJ κ (g8 0) 60 (F8 0)), (cJ κ (g8 1) 60 (F8 1)), (cJ κ (g8 2) 60 (F8 2)), (cJ κ (g8 3) 60 (F8 3)), (cJ κ (g8 4) 60 (F8 4)), (cJ κ (g8 5) 60 (F8 5))] sz) := by
  refine ofK_l (cc := cX11_element) (maxL := 3) (own := RX11) (by decide) rfl rfl (Nat.le_of_ble_eq_true rfl) ?_
  intro p e s m args below meth c Q A ls hsz hx hb hml hts hown hK hA hAB hP hD hl ret
  have hS : va_S A s.heap s.heap [] := va_S.rf
  have hl : lv_has ls 3 [(0, .ref a11), (1, .int p1), (2, .int p2)] := hl
  have w0 := hts (.fieldLink RX11 82 "OlderSkin" "shelves" "LOlderSkin$Shelves;") (List.mem_of_getElem? (i := 1) rfl)
  have w1 := (fun w h => List.mem_cons_of_mem _ (List.mem_append_left _ (List.mem_append_right _ h)) : ∀ w ∈ u_ws RX11 TX11 12, w ∈ wsX11_element)
  have w2 := hts (.fieldLink RX11 240 "OlderSkin$Shelves" "values" "[[J") (List.mem_of_getElem? (i := 3) rfl)
  have w3 := (fun w h => List.mem_cons_of_mem _ (List.mem_append_right _ h) : ∀ w ∈ u_ws RX8 TX8 4, w ∈ wsX11_element)
  have w4 := hts (.constantLong RX11 439 (-9223372036854775808)) (List.mem_of_getElem? (i := 2) rfl)
  have l0 : (0 : Int32).toInt = 0 := by decide
  have l1 : ((-9223372036854775808) : Int64).toInt = -9223372036854775808 := by decide
  refine lv_aload_n hx hb dX11_element_0 rfl (lv_at hl 0 rfl) ?_
  refine va_get (D := D) (ci := 11) (v := .ref a8) (C := RX11) (T := TX11) (N := 12) hx hb hts w1 hown hK.1 hP 0 rfl rfl 10 (by decide) w0 (fun _ h9 => h9) rfl dX11_element_1 ?_
  refine lv_iload_n hx hb dX11_element_4 rfl (lv_at hl 1 rfl) ?_
  refine lv_iload_n hx hb dX11_element_5 rfl (lv_at hl 2 rfl) ?_
  refine kcm_i hA hAB hP hD hS [false, true, true, true, false, false, false, false, false, false, false] rfl (fun _ => rfl) (fun hPc hDc => va_runV (As := [.int p1, .int p2]) (rest := []) ⟨hx, hb, hml, hown, hts⟩ (k_X8_refusal l D κ β a8 r8 f8_sorts f8_lengths s.heap.size p1 p2 hf8_lengths) (cwV 2 hts gX11_element_X8_refusal rfl rfl rfl (by decide +kernel) ⟨Nat.le_of_ble_eq_true rfl, Nat.le_of_ble_eq_true rfl⟩) (pk_V hK hS hAB hPc hDc 0 (ci := 8) rfl rfl rfl) rfl rfl hl.1 rfl (lv_room (Nat.le_of_ble_eq_true rfl)) dX11_element_6 ⟨Nat.le_of_ble_eq_true rfl, Nat.le_of_ble_eq_true rfl⟩) (fun x1 u2 H locs hw hPD hS => ?_)
  have h3 : x1.toInt ≠ 0 ∨ (0 ≤ p1.toInt ∧ p1.toInt ≤ 5 ∧ 0 ≤ p2.toInt ∧ p2.toInt ≤ 59) := hw
  obtain ⟨hP, hD⟩ : PD D A [O11 a11 a7 a5 a3 a2 a6 a4 a10 a9 a1 a0 a8 aN, O8 a8 r8, (cI κ (r8 0) 6 f8_sorts), (cI κ (r8 1) 6 f8_lengths), (cRJ κ (r8 3) 6 (fun i => some (g8 i))), (cJ κ (g8 0) 60 (F8 0)), (cJ κ (g8 1) 60 (F8 1)), (cJ κ (g8 2) 60 (F8 2)), (cJ κ (g8 3) 60 (F8 3)), (cJ κ (g8 4) 60 (F8 4)), (cJ κ (g8 5) 60 (F8 5))] H := hPD
  refine lv_if_eq (tgt := 18) hx hb dX11_element_9 (by decide) (fun c4 => ?_) (fun c4 => ?_)
  · have c4 := ci_eq c4
    refine lv_aload_n hx hb dX11_element_18 rfl (lv_at hl 0 rfl) ?_
    refine va_get (D := D) (ci := 11) (v := .ref a8) (C := RX11) (T := TX11) (N := 12) hx hb hts w1 hown hK.1 hP 0 rfl rfl 10 (by decide) w0 (fun _ h9 => h9) rfl dX11_element_19 ?_
    refine va_get (D := D) (ci := 8) (v := .ref (r8 3)) (C := RX8) (T := TX8) (N := 4) hx hb hts w3 hown hK.1 hP 1 rfl rfl 3 (by decide) w2 (fun _ h9 => h9) rfl dX11_element_22 ?_
    refine lv_iload_n hx hb dX11_element_25 rfl (lv_at hl 1 rfl) ?_
    obtain ⟨j5, hj5, ej5⟩ : ∃ y : Nat, y < 6 ∧ p1.toNatClampNeg = y := ⟨_, by have := ci_clamp (i := p1) (by omega); omega, rfl⟩
    refine va_aldG rfl hx hb hK.1 hP 4 5 rfl rfl (i := p1) (j := j5) ej5 (ix (by omega) (by omega)) dX11_element_26 ?_
    refine lv_iload_n hx hb dX11_element_27 rfl (lv_at hl 2 rfl) ?_
    have hw6 : ([O11 a11 a7 a5 a3 a2 a6 a4 a10 a9 a1 a0 a8 aN, O8 a8 r8, (cI κ (r8 0) 6 f8_sorts), (cI κ (r8 1) 6 f8_lengths), (cRJ κ (r8 3) 6 (fun i => some (g8 i))), (cJ κ (g8 0) 60 (F8 0)), (cJ κ (g8 1) 60 (F8 1)), (cJ κ (g8 2) 60 (F8 2)), (cJ κ (g8 3) 60 (F8 3)), (cJ κ (g8 4) 60 (F8 4)), (cJ κ (g8 5) 60 (F8 5))] : va_W)[5 + j5]? = some (g8 j5, .inl (κ 2, 60, .inr (.inl (F8 j5)))) := by rcases six hj5 with h | h | h | h | h | h <;> (subst h; rfl)
    refine va_lald hx hb hK.1 hP (5 + j5) 2 hw6 rfl (i := p2) (ix (by omega) (by omega)) dX11_element_28 ?_
    refine lv_topl (fun x7 e8 => ?_)
    exact ret _ _ _ _ x7 () dX11_element_29 trivial hP hD hS
  have c4 := ci_ne c4
  refine lv_ldc2 (v := ((-9223372036854775808) : Int64)) hx hb hown w4 dX11_element_12 ?_
  refine lv_goto (tgt := 29) hx hb dX11_element_15 (by decide) ?_
  exact ret _ _ _ _ ((-9223372036854775808) : Int64) () dX11_element_29 trivial hP hD hS
set_option maxHeartbeats 4000000 in
set_option maxRecDepth 100000 in
theorem k_X11_shift (l : Launch) (D : va_G) (κ : Nat → ClassId) (β : Nat) (a11 : Nat) (a7 : Nat) (a5 : Nat) (a3 : Nat) (a2 : Nat) (a6 : Nat) (a4 : Nat) (a10 : Nat) (a9 : Nat) (a1 : Nat) (a0 : Nat) (a8 : Nat) (aN : Nat) (r8 : Nat → Nat) (f8_sorts : Nat → Int32) (f8_lengths : Nat → Int32) (g8 : Nat → Nat) (F8 : Nat → Nat → Int64) (sz : Nat) (p1 : Int32) (p2 : Int32) (p3 : Int32) (p4 : Int32) (p5 : Int32) (hf8_lengths : ∀ j : Nat, 0 ≤ (f8_lengths j).toInt ∧ (f8_lengths j).toInt ≤ 60) : Met l yX11_shift wsX11_shift ({ frames := 2, cells := 0, slots := 0, locals := 64 } : Room) (PcK D κ β [O11 a11 a7 a5 a3 a2 a6 a4 a10 a9 a1 a0 a8 aN, O8 a8 r8, (cI κ (r8 0) 6 f8_sorts), (cI κ (r8 1) 6 f8_lengths), (cRJ κ (r8 3) 6 (fun i => some (g8 i))), (cJ κ (g8 0) 60 (F8 0)), (cJ κ (g8 1) 60 (F8 1)), (cJ κ (g8 2) 60 (F8 2)), (cJ κ (g8 3) 60 (F8 3)), (cJ κ (g8 4) 60 (F8 4)), (cJ κ (g8 5) 60 (F8 5))] sz [.ref a11, .int p1, .int p2, .int p3, .int p4, .int p5]) (QiK D (fun (r : Int32) (u : (Nat → Nat → Int64)) => True) (fun (u : (Nat → Nat → Int64)) => [O11 a11 a7 a5 a3 a2 a6 a4 a10 a9 a1 a0 a8 aN, O8 a8 r8, (cI κ (r8 0) 6 f8_sorts), (cI κ (r8 1) 6 f8_lengths), (cRJ κ (r8 3) 6 (fun i => some (g8 i))), (cJ κ (g8 0) 60 (u 0)), (cJ κ (g8 1) 60 (u 1)), (cJ κ (g8 2) 60 (u 2)), (cJ κ (g8 3) 60 (u 3)), (cJ κ (g8 4) 60 (u 4)), (cJ κ (g8 5) 60 (u 5))]) [O11 a11 a7 a5 a3 a2 a6 a4 a10 a9 a1 a0 a8 aN, O8 a8 r8, (cI κ (r8 0) 6 f8_sorts), (cI κ (r8 1) 6 f8_lengths), (cRJ κ (r8 3) 6 (fun i => some (g8 i))), (cJ κ (g8 0) 60 (F8 0)), (cJ κ (g8 1) 60 (F8 1)), (cJ κ (g8 2) 60 (F8 2)), (cJ κ (g8 3) 60 (F8 3)), (cJ κ (g8 4) 60 (F8 4)), (cJ κ (g8 5) 60 (F8 5))] sz) 0 0 (va_A [O11 a11 a7 a5 a3 a2 a6 a4 a10 a9 a1 a0 a8 aN, O8 a8 r8, (cI κ (r8 0) 6 f8_sorts), (cI κ (r8 1) 6 f8_lengths), (cRJ κ (r8 3) 6 (fun i => some (g8 i))), (cJ κ (g8 0) 60 (F8 0)), (cJ κ (g8 1) 60 (F8 1)), (cJ κ (g8 2) 60 (F8 2)), (cJ κ (g8 3) 60 (F8 3)), (cJ κ (g8 4) 60 (F8 4)), (cJ κ (g8 5) 60 (F8 5))] sz) := by
  refine ofK_i (cc := cX11_shift) (maxL := 6) (own := RX11) (by decide) rfl rfl (Nat.le_of_ble_eq_true rfl) ?_
  intro p e s m args below meth c Q A ls hsz hx hb hml hts hown hK hA hAB hP hD hl ret
  have hS : va_S A s.heap s.heap [] := va_S.rf
  have hl : lv_has ls 6 [(0, .ref a11), (1, .int p1), (2, .int p2), (3, .int p3), (4, .int p4), (5, .int p5)] := hl
  have w0 := hts (.fieldLink RX11 82 "OlderSkin" "shelves" "LOlderSkin$Shelves;") (List.mem_of_getElem? (i := 1) rfl)
  have w1 := (fun w h => List.mem_cons_of_mem _ (List.mem_append_left _ (List.mem_append_right _ h)) : ∀ w ∈ u_ws RX11 TX11 12, w ∈ wsX11_shift)
  have w2 := hts (.fieldLink RX11 240 "OlderSkin$Shelves" "values" "[[J") (List.mem_of_getElem? (i := 2) rfl)
  have w3 := (fun w h => List.mem_cons_of_mem _ (List.mem_append_right _ h) : ∀ w ∈ u_ws RX8 TX8 4, w ∈ wsX11_shift)
  have w4 := hts (.methodLink RX11 444 arraycopyName) (List.mem_of_getElem? (i := 3) rfl)
  have w5 := hts (.native arraycopyName) (List.mem_of_getElem? (i := 4) rfl)
  have w6 := hts (.static arraycopyName) (List.mem_of_getElem? (i := 5) rfl)
  have w7 := hts (.initialized "java/lang/System") (List.mem_of_getElem? (i := 6) rfl)
  have l0 : (0 : Int32).toInt = 0 := by decide
  have l1 : ((-1) : Int32).toInt = -1 := by decide
  have l2 : ((-11) : Int32).toInt = -11 := by decide
  have l3 : ((-13) : Int32).toInt = -13 := by decide
  have l4 : ((-12) : Int32).toInt = -12 := by decide
  refine lv_aload_n hx hb dX11_shift_0 rfl (lv_at hl 0 rfl) ?_
  refine va_get (D := D) (ci := 11) (v := .ref a8) (C := RX11) (T := TX11) (N := 12) hx hb hts w1 hown hK.1 hP 0 rfl rfl 10 (by decide) w0 (fun _ h9 => h9) rfl dX11_shift_1 ?_
  refine lv_iload_n hx hb dX11_shift_4 rfl (lv_at hl 1 rfl) ?_
  refine kcm_i hA hAB hP hD hS [false, true, true, false, false, false, false, false, false, false, false] rfl (fun _ => rfl) (fun hPc hDc => va_runV (As := [.int p1]) (rest := []) ⟨hx, hb, hml, hown, hts⟩ (k_X8_isShelf l D κ β a8 r8 f8_sorts s.heap.size p1) (cwV 1 hts gX11_shift_X8_isShelf rfl rfl rfl (by decide +kernel) ⟨Nat.le_of_ble_eq_true rfl, Nat.le_of_ble_eq_true rfl⟩) (pk_V hK hS hAB hPc hDc 0 (ci := 8) rfl rfl rfl) rfl rfl hl.1 rfl (lv_room (Nat.le_of_ble_eq_true rfl)) dX11_shift_5 ⟨Nat.le_of_ble_eq_true rfl, Nat.le_of_ble_eq_true rfl⟩) (fun x1 u2 H locs hw hPD hS => ?_)
  have h3 : (x1.toInt = 1 ∧ 0 ≤ p1.toInt ∧ p1.toInt ≤ 5) ∨ (x1.toInt = 0 ∧ (p1.toInt < 0 ∨ 5 < p1.toInt)) := hw
  obtain ⟨hP, hD⟩ : PD D A [O11 a11 a7 a5 a3 a2 a6 a4 a10 a9 a1 a0 a8 aN, O8 a8 r8, (cI κ (r8 0) 6 f8_sorts), (cI κ (r8 1) 6 f8_lengths), (cRJ κ (r8 3) 6 (fun i => some (g8 i))), (cJ κ (g8 0) 60 (F8 0)), (cJ κ (g8 1) 60 (F8 1)), (cJ κ (g8 2) 60 (F8 2)), (cJ κ (g8 3) 60 (F8 3)), (cJ κ (g8 4) 60 (F8 4)), (cJ κ (g8 5) 60 (F8 5))] H := hPD
  refine lv_if_eq (tgt := 22) hx hb dX11_shift_8 (by decide) (fun c4 => ?_) (fun c4 => ?_)
  · have c4 := ci_eq c4
    refine lv_iconst (v := (-1)) hx hb dX11_shift_22 (by decide) ?_
    exact ret _ _ _ _ (-1) F8 dX11_shift_23 trivial hP hD hS
  have c4 := ci_ne c4
  refine lv_aload_n hx hb dX11_shift_11 rfl (lv_at hl 0 rfl) ?_
  refine va_get (D := D) (ci := 11) (v := .ref a8) (C := RX11) (T := TX11) (N := 12) hx hb hts w1 hown hK.1 hP 0 rfl rfl 10 (by decide) w0 (fun _ h9 => h9) rfl dX11_shift_12 ?_
  refine lv_iload_n hx hb dX11_shift_15 rfl (lv_at hl 3 rfl) ?_
  refine kcm_i hA hAB hP hD hS [false, true, true, false, false, false, false, false, false, false, false] rfl (fun _ => rfl) (fun hPc hDc => va_runV (As := [.int p3]) (rest := []) ⟨hx, hb, hml, hown, hts⟩ (k_X8_isShelf l D κ β a8 r8 f8_sorts H.size p3) (cwV 1 hts gX11_shift_X8_isShelf rfl rfl rfl (by decide +kernel) ⟨Nat.le_of_ble_eq_true rfl, Nat.le_of_ble_eq_true rfl⟩) (pk_V hK hS hAB hPc hDc 0 (ci := 8) rfl rfl rfl) rfl rfl hl.1 rfl (lv_room (Nat.le_of_ble_eq_true rfl)) dX11_shift_16 ⟨Nat.le_of_ble_eq_true rfl, Nat.le_of_ble_eq_true rfl⟩) (fun x5 u6 H locs hw hPD hS => ?_)
  have h7 : (x5.toInt = 1 ∧ 0 ≤ p3.toInt ∧ p3.toInt ≤ 5) ∨ (x5.toInt = 0 ∧ (p3.toInt < 0 ∨ 5 < p3.toInt)) := hw
  obtain ⟨hP, hD⟩ : PD D A [O11 a11 a7 a5 a3 a2 a6 a4 a10 a9 a1 a0 a8 aN, O8 a8 r8, (cI κ (r8 0) 6 f8_sorts), (cI κ (r8 1) 6 f8_lengths), (cRJ κ (r8 3) 6 (fun i => some (g8 i))), (cJ κ (g8 0) 60 (F8 0)), (cJ κ (g8 1) 60 (F8 1)), (cJ κ (g8 2) 60 (F8 2)), (cJ κ (g8 3) 60 (F8 3)), (cJ κ (g8 4) 60 (F8 4)), (cJ κ (g8 5) 60 (F8 5))] H := hPD
  refine lv_if_ne (tgt := 24) hx hb dX11_shift_19 (by decide) (fun c8 => ?_) (fun c8 => ?_)
  · have c8 := ci_ne c8
    refine lv_aload_n hx hb dX11_shift_24 rfl (lv_at hl 0 rfl) ?_
    refine va_get (D := D) (ci := 11) (v := .ref a8) (C := RX11) (T := TX11) (N := 12) hx hb hts w1 hown hK.1 hP 0 rfl rfl 10 (by decide) w0 (fun _ h9 => h9) rfl dX11_shift_25 ?_
    refine lv_iload_n hx hb dX11_shift_28 rfl (lv_at hl 1 rfl) ?_
    refine kcm_i hA hAB hP hD hS [false, true, true, false, false, false, false, false, false, false, false] rfl (fun _ => rfl) (fun hPc hDc => va_runV (As := [.int p1]) (rest := []) ⟨hx, hb, hml, hown, hts⟩ (k_X8_isBare l D κ β a8 r8 f8_sorts H.size p1 (by omega)) (cwV 1 hts gX11_shift_X8_isBare rfl rfl rfl (by decide +kernel) ⟨Nat.le_of_ble_eq_true rfl, Nat.le_of_ble_eq_true rfl⟩) (pk_V hK hS hAB hPc hDc 0 (ci := 8) rfl rfl rfl) rfl rfl hl.1 rfl (lv_room (Nat.le_of_ble_eq_true rfl)) dX11_shift_29 ⟨Nat.le_of_ble_eq_true rfl, Nat.le_of_ble_eq_true rfl⟩) (fun x9 u10 H locs hw hPD hS => ?_)
    have h11 : x9.toInt = 0 ∨ x9.toInt = 1 := hw
    obtain ⟨hP, hD⟩ : PD D A [O11 a11 a7 a5 a3 a2 a6 a4 a10 a9 a1 a0 a8 aN, O8 a8 r8, (cI κ (r8 0) 6 f8_sorts), (cI κ (r8 1) 6 f8_lengths), (cRJ κ (r8 3) 6 (fun i => some (g8 i))), (cJ κ (g8 0) 60 (F8 0)), (cJ κ (g8 1) 60 (F8 1)), (cJ κ (g8 2) 60 (F8 2)), (cJ κ (g8 3) 60 (F8 3)), (cJ κ (g8 4) 60 (F8 4)), (cJ κ (g8 5) 60 (F8 5))] H := hPD
    refine lv_if_ne (tgt := 46) hx hb dX11_shift_32 (by decide) (fun c12 => ?_) (fun c12 => ?_)
    · have c12 := ci_ne c12
      refine lv_bipush (v := (-11)) hx hb dX11_shift_46 (by decide) ?_
      exact ret _ _ _ _ (-11) F8 dX11_shift_48 trivial hP hD hS
    have c12 := ci_eq c12
    refine lv_aload_n hx hb dX11_shift_35 rfl (lv_at hl 0 rfl) ?_
    refine va_get (D := D) (ci := 11) (v := .ref a8) (C := RX11) (T := TX11) (N := 12) hx hb hts w1 hown hK.1 hP 0 rfl rfl 10 (by decide) w0 (fun _ h9 => h9) rfl dX11_shift_36 ?_
    refine lv_iload_n hx hb dX11_shift_39 rfl (lv_at hl 3 rfl) ?_
    refine kcm_i hA hAB hP hD hS [false, true, true, false, false, false, false, false, false, false, false] rfl (fun _ => rfl) (fun hPc hDc => va_runV (As := [.int p3]) (rest := []) ⟨hx, hb, hml, hown, hts⟩ (k_X8_isBare l D κ β a8 r8 f8_sorts H.size p3 (by omega)) (cwV 1 hts gX11_shift_X8_isBare rfl rfl rfl (by decide +kernel) ⟨Nat.le_of_ble_eq_true rfl, Nat.le_of_ble_eq_true rfl⟩) (pk_V hK hS hAB hPc hDc 0 (ci := 8) rfl rfl rfl) rfl rfl hl.1 rfl (lv_room (Nat.le_of_ble_eq_true rfl)) dX11_shift_40 ⟨Nat.le_of_ble_eq_true rfl, Nat.le_of_ble_eq_true rfl⟩) (fun x13 u14 H locs hw hPD hS => ?_)
    have h15 : x13.toInt = 0 ∨ x13.toInt = 1 := hw
    obtain ⟨hP, hD⟩ : PD D A [O11 a11 a7 a5 a3 a2 a6 a4 a10 a9 a1 a0 a8 aN, O8 a8 r8, (cI κ (r8 0) 6 f8_sorts), (cI κ (r8 1) 6 f8_lengths), (cRJ κ (r8 3) 6 (fun i => some (g8 i))), (cJ κ (g8 0) 60 (F8 0)), (cJ κ (g8 1) 60 (F8 1)), (cJ κ (g8 2) 60 (F8 2)), (cJ κ (g8 3) 60 (F8 3)), (cJ κ (g8 4) 60 (F8 4)), (cJ κ (g8 5) 60 (F8 5))] H := hPD
    refine lv_if_eq (tgt := 49) hx hb dX11_shift_43 (by decide) (fun c16 => ?_) (fun c16 => ?_)
    · have c16 := ci_eq c16
      refine lv_aload_n hx hb dX11_shift_49 rfl (lv_at hl 0 rfl) ?_
      refine va_get (D := D) (ci := 11) (v := .ref a8) (C := RX11) (T := TX11) (N := 12) hx hb hts w1 hown hK.1 hP 0 rfl rfl 10 (by decide) w0 (fun _ h9 => h9) rfl dX11_shift_50 ?_
      refine lv_iload_n hx hb dX11_shift_53 rfl (lv_at hl 1 rfl) ?_
      refine lv_iload_n hx hb dX11_shift_54 rfl (lv_at hl 3 rfl) ?_
      refine kcm_i hA hAB hP hD hS [false, true, true, false, false, false, false, false, false, false, false] rfl (fun _ => rfl) (fun hPc hDc => va_runV (As := [.int p1, .int p3]) (rest := []) ⟨hx, hb, hml, hown, hts⟩ (k_X8_areAlikeRows l D κ β a8 r8 f8_sorts H.size p1 p3 (by omega) (by omega)) (cwV 2 hts gX11_shift_X8_areAlikeRows rfl rfl rfl (by decide +kernel) ⟨Nat.le_of_ble_eq_true rfl, Nat.le_of_ble_eq_true rfl⟩) (pk_V hK hS hAB hPc hDc 0 (ci := 8) rfl rfl rfl) rfl rfl hl.1 rfl (lv_room (Nat.le_of_ble_eq_true rfl)) dX11_shift_55 ⟨Nat.le_of_ble_eq_true rfl, Nat.le_of_ble_eq_true rfl⟩) (fun x17 u18 H locs hw hPD hS => ?_)
      have h19 : x17.toInt = 0 ∨ x17.toInt = 1 := hw
      obtain ⟨hP, hD⟩ : PD D A [O11 a11 a7 a5 a3 a2 a6 a4 a10 a9 a1 a0 a8 aN, O8 a8 r8, (cI κ (r8 0) 6 f8_sorts), (cI κ (r8 1) 6 f8_lengths), (cRJ κ (r8 3) 6 (fun i => some (g8 i))), (cJ κ (g8 0) 60 (F8 0)), (cJ κ (g8 1) 60 (F8 1)), (cJ κ (g8 2) 60 (F8 2)), (cJ κ (g8 3) 60 (F8 3)), (cJ κ (g8 4) 60 (F8 4)), (cJ κ (g8 5) 60 (F8 5))] H := hPD
      refine lv_if_ne (tgt := 64) hx hb dX11_shift_58 (by decide) (fun c20 => ?_) (fun c20 => ?_)
      · have c20 := ci_ne c20
        refine lv_aload_n hx hb dX11_shift_64 rfl (lv_at hl 0 rfl) ?_
        refine va_get (D := D) (ci := 11) (v := .ref a8) (C := RX11) (T := TX11) (N := 12) hx hb hts w1 hown hK.1 hP 0 rfl rfl 10 (by decide) w0 (fun _ h9 => h9) rfl dX11_shift_65 ?_
        refine lv_iload_n hx hb dX11_shift_68 rfl (lv_at hl 1 rfl) ?_
        refine lv_iload_n hx hb dX11_shift_69 rfl (lv_at hl 2 rfl) ?_
        refine lv_iload hx hb dX11_shift_70 (lv_at hl 5 rfl) ?_
        refine kcm_i hA hAB hP hD hS [false, true, false, true, false, false, false, false, false, false, false] rfl (fun _ => rfl) (fun hPc hDc => va_runV (As := [.int p1, .int p2, .int p5]) (rest := []) ⟨hx, hb, hml, hown, hts⟩ (k_X8_hasPlaces l D κ β a8 r8 f8_lengths H.size p1 p2 p5 hf8_lengths (by omega)) (cwV 3 hts gX11_shift_X8_hasPlaces rfl rfl rfl (by decide +kernel) ⟨Nat.le_of_ble_eq_true rfl, Nat.le_of_ble_eq_true rfl⟩) (pk_V hK hS hAB hPc hDc 0 (ci := 8) rfl rfl rfl) rfl rfl hl.1 rfl (lv_room (Nat.le_of_ble_eq_true rfl)) dX11_shift_72 ⟨Nat.le_of_ble_eq_true rfl, Nat.le_of_ble_eq_true rfl⟩) (fun x21 u22 H locs hw hPD hS => ?_)
        have h23 : (x21.toInt = 1 ∧ 0 ≤ p2.toInt ∧ 0 ≤ p5.toInt ∧ p2.toInt + p5.toInt ≤ 60) ∨ x21.toInt = 0 := hw
        obtain ⟨hP, hD⟩ : PD D A [O11 a11 a7 a5 a3 a2 a6 a4 a10 a9 a1 a0 a8 aN, O8 a8 r8, (cI κ (r8 0) 6 f8_sorts), (cI κ (r8 1) 6 f8_lengths), (cRJ κ (r8 3) 6 (fun i => some (g8 i))), (cJ κ (g8 0) 60 (F8 0)), (cJ κ (g8 1) 60 (F8 1)), (cJ κ (g8 2) 60 (F8 2)), (cJ κ (g8 3) 60 (F8 3)), (cJ κ (g8 4) 60 (F8 4)), (cJ κ (g8 5) 60 (F8 5))] H := hPD
        refine lv_if_eq (tgt := 93) hx hb dX11_shift_75 (by decide) (fun c24 => ?_) (fun c24 => ?_)
        · have c24 := ci_eq c24
          refine lv_bipush (v := (-13)) hx hb dX11_shift_93 (by decide) ?_
          exact ret _ _ _ _ (-13) F8 dX11_shift_95 trivial hP hD hS
        have c24 := ci_ne c24
        refine lv_aload_n hx hb dX11_shift_78 rfl (lv_at hl 0 rfl) ?_
        refine va_get (D := D) (ci := 11) (v := .ref a8) (C := RX11) (T := TX11) (N := 12) hx hb hts w1 hown hK.1 hP 0 rfl rfl 10 (by decide) w0 (fun _ h9 => h9) rfl dX11_shift_79 ?_
        refine lv_iload_n hx hb dX11_shift_82 rfl (lv_at hl 3 rfl) ?_
        refine lv_iload hx hb dX11_shift_83 (lv_at hl 4 rfl) ?_
        refine lv_iload hx hb dX11_shift_85 (lv_at hl 5 rfl) ?_
        refine kcm_i hA hAB hP hD hS [false, true, false, true, false, false, false, false, false, false, false] rfl (fun _ => rfl) (fun hPc hDc => va_runV (As := [.int p3, .int p4, .int p5]) (rest := []) ⟨hx, hb, hml, hown, hts⟩ (k_X8_hasPlaces l D κ β a8 r8 f8_lengths H.size p3 p4 p5 hf8_lengths (by omega)) (cwV 3 hts gX11_shift_X8_hasPlaces rfl rfl rfl (by decide +kernel) ⟨Nat.le_of_ble_eq_true rfl, Nat.le_of_ble_eq_true rfl⟩) (pk_V hK hS hAB hPc hDc 0 (ci := 8) rfl rfl rfl) rfl rfl hl.1 rfl (lv_room (Nat.le_of_ble_eq_true rfl)) dX11_shift_87 ⟨Nat.le_of_ble_eq_true rfl, Nat.le_of_ble_eq_true rfl⟩) (fun x25 u26 H locs hw hPD hS => ?_)
        have h27 : (x25.toInt = 1 ∧ 0 ≤ p4.toInt ∧ 0 ≤ p5.toInt ∧ p4.toInt + p5.toInt ≤ 60) ∨ x25.toInt = 0 := hw
        obtain ⟨hP, hD⟩ : PD D A [O11 a11 a7 a5 a3 a2 a6 a4 a10 a9 a1 a0 a8 aN, O8 a8 r8, (cI κ (r8 0) 6 f8_sorts), (cI κ (r8 1) 6 f8_lengths), (cRJ κ (r8 3) 6 (fun i => some (g8 i))), (cJ κ (g8 0) 60 (F8 0)), (cJ κ (g8 1) 60 (F8 1)), (cJ κ (g8 2) 60 (F8 2)), (cJ κ (g8 3) 60 (F8 3)), (cJ κ (g8 4) 60 (F8 4)), (cJ κ (g8 5) 60 (F8 5))] H := hPD
        refine lv_if_ne (tgt := 96) hx hb dX11_shift_90 (by decide) (fun c28 => ?_) (fun c28 => ?_)
        · have c28 := ci_ne c28
          refine lv_aload_n hx hb dX11_shift_96 rfl (lv_at hl 0 rfl) ?_
          refine va_get (D := D) (ci := 11) (v := .ref a8) (C := RX11) (T := TX11) (N := 12) hx hb hts w1 hown hK.1 hP 0 rfl rfl 10 (by decide) w0 (fun _ h9 => h9) rfl dX11_shift_97 ?_
          refine va_get (D := D) (ci := 8) (v := .ref (r8 3)) (C := RX8) (T := TX8) (N := 4) hx hb hts w3 hown hK.1 hP 1 rfl rfl 3 (by decide) w2 (fun _ h9 => h9) rfl dX11_shift_100 ?_
          refine lv_iload_n hx hb dX11_shift_103 rfl (lv_at hl 1 rfl) ?_
          obtain ⟨j29, hj29, ej29⟩ : ∃ y : Nat, y < 6 ∧ p1.toNatClampNeg = y := ⟨_, by have := ci_clamp (i := p1) (by omega); omega, rfl⟩
          refine va_aldG rfl hx hb hK.1 hP 4 5 rfl rfl (i := p1) (j := j29) ej29 (ix (by omega) (by omega)) dX11_shift_104 ?_
          refine lv_iload_n hx hb dX11_shift_105 rfl (lv_at hl 2 rfl) ?_
          refine lv_aload_n hx hb dX11_shift_106 rfl (lv_at hl 0 rfl) ?_
          refine va_get (D := D) (ci := 11) (v := .ref a8) (C := RX11) (T := TX11) (N := 12) hx hb hts w1 hown hK.1 hP 0 rfl rfl 10 (by decide) w0 (fun _ h9 => h9) rfl dX11_shift_107 ?_
          refine va_get (D := D) (ci := 8) (v := .ref (r8 3)) (C := RX8) (T := TX8) (N := 4) hx hb hts w3 hown hK.1 hP 1 rfl rfl 3 (by decide) w2 (fun _ h9 => h9) rfl dX11_shift_110 ?_
          refine lv_iload_n hx hb dX11_shift_113 rfl (lv_at hl 3 rfl) ?_
          obtain ⟨j30, hj30, ej30⟩ : ∃ y : Nat, y < 6 ∧ p3.toNatClampNeg = y := ⟨_, by have := ci_clamp (i := p3) (by omega); omega, rfl⟩
          refine va_aldG rfl hx hb hK.1 hP 4 5 rfl rfl (i := p3) (j := j30) ej30 (ix (by omega) (by omega)) dX11_shift_114 ?_
          refine lv_iload hx hb dX11_shift_115 (lv_at hl 4 rfl) ?_
          refine lv_iload hx hb dX11_shift_117 (lv_at hl 5 rfl) ?_
          have hw0 : ([O11 a11 a7 a5 a3 a2 a6 a4 a10 a9 a1 a0 a8 aN, O8 a8 r8, (cI κ (r8 0) 6 f8_sorts), (cI κ (r8 1) 6 f8_lengths), (cRJ κ (r8 3) 6 (fun i => some (g8 i))), (cJ κ (g8 0) 60 (F8 0)), (cJ κ (g8 1) 60 (F8 1)), (cJ κ (g8 2) 60 (F8 2)), (cJ κ (g8 3) 60 (F8 3)), (cJ κ (g8 4) 60 (F8 4)), (cJ κ (g8 5) 60 (F8 5))] : va_W)[5 + j29]? = some (g8 j29, .inl (κ 2, 60, .inr (.inl (F8 j29)))) := by rcases six hj29 with h | h | h | h | h | h <;> (subst h; rfl)
          have hw1 : ([O11 a11 a7 a5 a3 a2 a6 a4 a10 a9 a1 a0 a8 aN, O8 a8 r8, (cI κ (r8 0) 6 f8_sorts), (cI κ (r8 1) 6 f8_lengths), (cRJ κ (r8 3) 6 (fun i => some (g8 i))), (cJ κ (g8 0) 60 (F8 0)), (cJ κ (g8 1) 60 (F8 1)), (cJ κ (g8 2) 60 (F8 2)), (cJ κ (g8 3) 60 (F8 3)), (cJ κ (g8 4) 60 (F8 4)), (cJ κ (g8 5) 60 (F8 5))] : va_W)[5 + j30]? = some (g8 j30, .inl (κ 2, 60, .inr (.inl (F8 j30)))) := by rcases six hj30 with h | h | h | h | h | h <;> (subst h; rfl)
          have hc1 := ci_clamp (i := p2) (by omega)
          have hc2 := ci_clamp (i := p4) (by omega)
          have hc3 := ci_clamp (i := p5) (by omega)
          refine va_copyl hx hb (hml.trans hl.1.symm) hown w4 w5 w6 w7 hK.1 hP hD hS (5 + j29) (5 + j30) 2 2 hw0 hw1 rfl rfl rfl (sp := p2) (dp := p4) (n := p5) (fun q => by have q := ci_lt q; omega) (fun q => by have q := ci_lt q; omega) (fun q => by have q := ci_lt q; omega) (by omega) (by omega) (fun i hi => rfl) (Nat.le_of_ble_eq_true rfl) (Nat.le_of_ble_eq_true rfl) dX11_shift_119 (fun H locs hP hD hS => ?_)
          obtain ⟨F31, e32⟩ : ∃ y : Nat → Nat → Int64, y = upF F8 j30 (va_cpy (F8 j29) (F8 j30) p2.toNatClampNeg p4.toNatClampNeg p5.toNatClampNeg) := ⟨_, rfl⟩
          have hP : va_P D vwCl [O11 a11 a7 a5 a3 a2 a6 a4 a10 a9 a1 a0 a8 aN, O8 a8 r8, (cI κ (r8 0) 6 f8_sorts), (cI κ (r8 1) 6 f8_lengths), (cRJ κ (r8 3) 6 (fun i => some (g8 i))), (cJ κ (g8 0) 60 (F31 0)), (cJ κ (g8 1) 60 (F31 1)), (cJ κ (g8 2) 60 (F31 2)), (cJ κ (g8 3) 60 (F31 3)), (cJ κ (g8 4) 60 (F31 4)), (cJ κ (g8 5) 60 (F31 5))] H := by rw [e32]; rcases six hj30 with h | h | h | h | h | h <;> (subst h; exact hP)
          have hD : va_D A [O11 a11 a7 a5 a3 a2 a6 a4 a10 a9 a1 a0 a8 aN, O8 a8 r8, (cI κ (r8 0) 6 f8_sorts), (cI κ (r8 1) 6 f8_lengths), (cRJ κ (r8 3) 6 (fun i => some (g8 i))), (cJ κ (g8 0) 60 (F31 0)), (cJ κ (g8 1) 60 (F31 1)), (cJ κ (g8 2) 60 (F31 2)), (cJ κ (g8 3) 60 (F31 3)), (cJ κ (g8 4) 60 (F31 4)), (cJ κ (g8 5) 60 (F31 5))] := by rw [e32]; rcases six hj30 with h | h | h | h | h | h <;> (subst h; exact hD)
          refine lv_iload hx hb dX11_shift_122 (lv_at hl 5 rfl) ?_
          exact ret _ _ _ _ p5 F31 dX11_shift_124 trivial hP hD hS
        have c28 := ci_eq c28
        refine lv_bipush (v := (-13)) hx hb dX11_shift_93 (by decide) ?_
        exact ret _ _ _ _ (-13) F8 dX11_shift_95 trivial hP hD hS
      have c20 := ci_eq c20
      refine lv_bipush (v := (-12)) hx hb dX11_shift_61 (by decide) ?_
      exact ret _ _ _ _ (-12) F8 dX11_shift_63 trivial hP hD hS
    have c16 := ci_ne c16
    refine lv_bipush (v := (-11)) hx hb dX11_shift_46 (by decide) ?_
    exact ret _ _ _ _ (-11) F8 dX11_shift_48 trivial hP hD hS
  have c8 := ci_eq c8
  refine lv_iconst (v := (-1)) hx hb dX11_shift_22 (by decide) ?_
  exact ret _ _ _ _ (-1) F8 dX11_shift_23 trivial hP hD hS
set_option maxHeartbeats 4000000 in
set_option maxRecDepth 100000 in
theorem k_X11_taken (l : Launch) (D : va_G) (κ : Nat → ClassId) (β : Nat) (a11 : Nat) (a7 : Nat) (a5 : Nat) (a3 : Nat) (a2 : Nat) (a6 : Nat) (a4 : Nat) (a10 : Nat) (a9 : Nat) (a1 : Nat) (a0 : Nat) (a8 : Nat) (aN : Nat) (r0 : Nat → Nat) (r8 : Nat → Nat) (v0_count : Int32) (v0_ran : Int32) (v0_actor : Int32) (f8_sorts : Nat → Int32) (f8_bodyKinds : Nat → Int32) (sz : Nat) (p1 : Int32) (p2 : Int32) (i1 : Rg 0 50 v0_count) (i2 : Rg 0 100000000 v0_ran) (i3 : Rg 0 49 v0_actor) (hf8_bodyKinds : ∀ j : Nat, 0 ≤ (f8_bodyKinds j).toInt ∧ (f8_bodyKinds j).toInt ≤ 7) : Met l yX11_taken wsX11_taken ({ frames := 2, cells := 0, slots := 0, locals := 43 } : Room) (PcK D κ β [O11 a11 a7 a5 a3 a2 a6 a4 a10 a9 a1 a0 a8 aN, O0 a0 r0 v0_count v0_ran v0_actor, O8 a8 r8, (cI κ (r8 0) 6 f8_sorts), (cI κ (r8 2) 6 f8_bodyKinds)] sz [.ref a11, .int p1, .int p2]) (QiK D (fun (r : Int32) (u : Unit) => True) (fun (u : Unit) => [O11 a11 a7 a5 a3 a2 a6 a4 a10 a9 a1 a0 a8 aN, O0 a0 r0 v0_count v0_ran v0_actor, O8 a8 r8, (cI κ (r8 0) 6 f8_sorts), (cI κ (r8 2) 6 f8_bodyKinds)]) [O11 a11 a7 a5 a3 a2 a6 a4 a10 a9 a1 a0 a8 aN, O0 a0 r0 v0_count v0_ran v0_actor, O8 a8 r8, (cI κ (r8 0) 6 f8_sorts), (cI κ (r8 2) 6 f8_bodyKinds)] sz) 0 0 (va_A [O11 a11 a7 a5 a3 a2 a6 a4 a10 a9 a1 a0 a8 aN, O0 a0 r0 v0_count v0_ran v0_actor, O8 a8 r8, (cI κ (r8 0) 6 f8_sorts), (cI κ (r8 2) 6 f8_bodyKinds)] sz) := by
  refine ofK_i (cc := cX11_taken) (maxL := 3) (own := RX11) (by decide) rfl rfl (Nat.le_of_ble_eq_true rfl) ?_
  intro p e s m args below meth c Q A ls hsz hx hb hml hts hown hK hA hAB hP hD hl ret
  have hS : va_S A s.heap s.heap [] := va_S.rf
  have hl : lv_has ls 3 [(0, .ref a11), (1, .int p1), (2, .int p2)] := hl
  have w0 := hts (.fieldLink RX11 82 "OlderSkin" "shelves" "LOlderSkin$Shelves;") (List.mem_of_getElem? (i := 1) rfl)
  have w1 := (fun w h => List.mem_cons_of_mem _ (List.mem_append_left _ (List.mem_append_right _ h)) : ∀ w ∈ u_ws RX11 TX11 12, w ∈ wsX11_taken)
  have w2 := hts (.fieldLink RX11 75 "OlderSkin" "bodies" "LOlderSkin$Bodies;") (List.mem_of_getElem? (i := 2) rfl)
  have w3 := hts (.fieldLink RX11 450 "OlderSkin$Shelves" "bodyKinds" "[I") (List.mem_of_getElem? (i := 3) rfl)
  have w4 := (fun w h => List.mem_cons_of_mem _ (List.mem_append_right _ h) : ∀ w ∈ u_ws RX8 TX8 4, w ∈ wsX11_taken)
  have l0 : (0 : Int32).toInt = 0 := by decide
  have l1 : ((-1) : Int32).toInt = -1 := by decide
  have l2 : (7 : Int32).toInt = 7 := by decide
  have l3 : (5 : Int32).toInt = 5 := by decide
  have l4 : ((-12) : Int32).toInt = -12 := by decide
  have l5 : ((-11) : Int32).toInt = -11 := by decide
  refine lv_aload_n hx hb dX11_taken_0 rfl (lv_at hl 0 rfl) ?_
  refine va_get (D := D) (ci := 11) (v := .ref a8) (C := RX11) (T := TX11) (N := 12) hx hb hts w1 hown hK.1 hP 0 rfl rfl 10 (by decide) w0 (fun _ h9 => h9) rfl dX11_taken_1 ?_
  refine lv_iload_n hx hb dX11_taken_4 rfl (lv_at hl 1 rfl) ?_
  refine kcm_i hA hAB hP hD hS [false, false, true, true, false] rfl (fun _ => rfl) (fun hPc hDc => va_runV (As := [.int p1]) (rest := []) ⟨hx, hb, hml, hown, hts⟩ (k_X8_isShelf l D κ β a8 r8 f8_sorts s.heap.size p1) (cwV 1 hts gX11_taken_X8_isShelf rfl rfl rfl (by decide +kernel) ⟨Nat.le_of_ble_eq_true rfl, Nat.le_of_ble_eq_true rfl⟩) (pk_V hK hS hAB hPc hDc 0 (ci := 8) rfl rfl rfl) rfl rfl hl.1 rfl (lv_room (Nat.le_of_ble_eq_true rfl)) dX11_taken_5 ⟨Nat.le_of_ble_eq_true rfl, Nat.le_of_ble_eq_true rfl⟩) (fun x1 u2 H locs hw hPD hS => ?_)
  have h3 : (x1.toInt = 1 ∧ 0 ≤ p1.toInt ∧ p1.toInt ≤ 5) ∨ (x1.toInt = 0 ∧ (p1.toInt < 0 ∨ 5 < p1.toInt)) := hw
  obtain ⟨hP, hD⟩ : PD D A [O11 a11 a7 a5 a3 a2 a6 a4 a10 a9 a1 a0 a8 aN, O0 a0 r0 v0_count v0_ran v0_actor, O8 a8 r8, (cI κ (r8 0) 6 f8_sorts), (cI κ (r8 2) 6 f8_bodyKinds)] H := hPD
  refine lv_if_eq (tgt := 21) hx hb dX11_taken_8 (by decide) (fun c4 => ?_) (fun c4 => ?_)
  · have c4 := ci_eq c4
    refine lv_iconst (v := (-1)) hx hb dX11_taken_21 (by decide) ?_
    exact ret _ _ _ _ (-1) () dX11_taken_22 trivial hP hD hS
  have c4 := ci_ne c4
  refine lv_iload_n hx hb dX11_taken_11 rfl (lv_at hl 2 rfl) ?_
  refine lv_iconst (v := 0) hx hb dX11_taken_12 (by decide) ?_
  refine lv_bipush (v := 7) hx hb dX11_taken_13 (by decide) ?_
  refine kcm_i hA hAB hP hD hS [false, false, false, false, false] rfl (fun _ => rfl) (fun hPc hDc => va_runS (As := [.int p2, .int 0, .int 7]) (rest := []) ⟨hx, hb, hml, hown, hts⟩ (k_X11_within l D κ β H.size p2 0 7) (va_cwS 3 hts gX11_taken_X11_within rfl rfl rfl (by decide +kernel) ⟨Nat.le_of_ble_eq_true rfl, Nat.le_of_ble_eq_true rfl⟩) (pk_S hK hS hAB hPc hDc) rfl rfl hl.1 rfl (lv_room (Nat.le_of_ble_eq_true rfl)) dX11_taken_15 ⟨Nat.le_of_ble_eq_true rfl, Nat.le_of_ble_eq_true rfl⟩) (fun x5 u6 H locs hw hPD hS => ?_)
  have h7 : (x5.toInt = 1 ∧ (0 : Int32).toInt ≤ p2.toInt ∧ p2.toInt ≤ (7 : Int32).toInt) ∨ (x5.toInt = 0 ∧ (p2.toInt < (0 : Int32).toInt ∨ (7 : Int32).toInt < p2.toInt)) := hw
  obtain ⟨hP, hD⟩ : PD D A [O11 a11 a7 a5 a3 a2 a6 a4 a10 a9 a1 a0 a8 aN, O0 a0 r0 v0_count v0_ran v0_actor, O8 a8 r8, (cI κ (r8 0) 6 f8_sorts), (cI κ (r8 2) 6 f8_bodyKinds)] H := hPD
  refine lv_if_ne (tgt := 23) hx hb dX11_taken_18 (by decide) (fun c8 => ?_) (fun c8 => ?_)
  · have c8 := ci_ne c8
    refine lv_aload_n hx hb dX11_taken_23 rfl (lv_at hl 0 rfl) ?_
    refine va_get (D := D) (ci := 11) (v := .ref a8) (C := RX11) (T := TX11) (N := 12) hx hb hts w1 hown hK.1 hP 0 rfl rfl 10 (by decide) w0 (fun _ h9 => h9) rfl dX11_taken_24 ?_
    refine lv_iload_n hx hb dX11_taken_27 rfl (lv_at hl 1 rfl) ?_
    refine kcm_i hA hAB hP hD hS [false, false, true, true, false] rfl (fun _ => rfl) (fun hPc hDc => va_runV (As := [.int p1]) (rest := []) ⟨hx, hb, hml, hown, hts⟩ (k_X8_isBare l D κ β a8 r8 f8_sorts H.size p1 (by omega)) (cwV 1 hts gX11_taken_X8_isBare rfl rfl rfl (by decide +kernel) ⟨Nat.le_of_ble_eq_true rfl, Nat.le_of_ble_eq_true rfl⟩) (pk_V hK hS hAB hPc hDc 0 (ci := 8) rfl rfl rfl) rfl rfl hl.1 rfl (lv_room (Nat.le_of_ble_eq_true rfl)) dX11_taken_28 ⟨Nat.le_of_ble_eq_true rfl, Nat.le_of_ble_eq_true rfl⟩) (fun x9 u10 H locs hw hPD hS => ?_)
    have h11 : x9.toInt = 0 ∨ x9.toInt = 1 := hw
    obtain ⟨hP, hD⟩ : PD D A [O11 a11 a7 a5 a3 a2 a6 a4 a10 a9 a1 a0 a8 aN, O0 a0 r0 v0_count v0_ran v0_actor, O8 a8 r8, (cI κ (r8 0) 6 f8_sorts), (cI κ (r8 2) 6 f8_bodyKinds)] H := hPD
    refine lv_if_eq (tgt := 37) hx hb dX11_taken_31 (by decide) (fun c12 => ?_) (fun c12 => ?_)
    · have c12 := ci_eq c12
      refine lv_aload_n hx hb dX11_taken_37 rfl (lv_at hl 0 rfl) ?_
      refine va_get (D := D) (ci := 11) (v := .ref a8) (C := RX11) (T := TX11) (N := 12) hx hb hts w1 hown hK.1 hP 0 rfl rfl 10 (by decide) w0 (fun _ h9 => h9) rfl dX11_taken_38 ?_
      refine lv_iload_n hx hb dX11_taken_41 rfl (lv_at hl 1 rfl) ?_
      refine lv_iconst (v := 5) hx hb dX11_taken_42 (by decide) ?_
      refine kcm_i hA hAB hP hD hS [false, false, true, true, false] rfl (fun _ => rfl) (fun hPc hDc => va_runV (As := [.int p1, .int 5]) (rest := []) ⟨hx, hb, hml, hown, hts⟩ (k_X8_holdsSort l D κ β a8 r8 f8_sorts H.size p1 5 (by omega)) (cwV 2 hts gX11_taken_X8_holdsSort rfl rfl rfl (by decide +kernel) ⟨Nat.le_of_ble_eq_true rfl, Nat.le_of_ble_eq_true rfl⟩) (pk_V hK hS hAB hPc hDc 0 (ci := 8) rfl rfl rfl) rfl rfl hl.1 rfl (lv_room (Nat.le_of_ble_eq_true rfl)) dX11_taken_43 ⟨Nat.le_of_ble_eq_true rfl, Nat.le_of_ble_eq_true rfl⟩) (fun x13 u14 H locs hw hPD hS => ?_)
      have h15 : x13.toInt = 0 ∨ x13.toInt = 1 := hw
      obtain ⟨hP, hD⟩ : PD D A [O11 a11 a7 a5 a3 a2 a6 a4 a10 a9 a1 a0 a8 aN, O0 a0 r0 v0_count v0_ran v0_actor, O8 a8 r8, (cI κ (r8 0) 6 f8_sorts), (cI κ (r8 2) 6 f8_bodyKinds)] H := hPD
      refine lv_if_eq (tgt := 69) hx hb dX11_taken_46 (by decide) (fun c16 => ?_) (fun c16 => ?_)
      · have c16 := ci_eq c16
        refine lv_bipush (v := (-12)) hx hb dX11_taken_69 (by decide) ?_
        exact ret _ _ _ _ (-12) () dX11_taken_71 trivial hP hD hS
      have c16 := ci_ne c16
      refine lv_aload_n hx hb dX11_taken_49 rfl (lv_at hl 0 rfl) ?_
      refine va_get (D := D) (ci := 11) (v := .ref a0) (C := RX11) (T := TX11) (N := 12) hx hb hts w1 hown hK.1 hP 0 rfl rfl 9 (by decide) w2 (fun _ h9 => h9) rfl dX11_taken_50 ?_
      refine lv_aload_n hx hb dX11_taken_53 rfl (lv_at hl 0 rfl) ?_
      refine va_get (D := D) (ci := 11) (v := .ref a8) (C := RX11) (T := TX11) (N := 12) hx hb hts w1 hown hK.1 hP 0 rfl rfl 10 (by decide) w0 (fun _ h9 => h9) rfl dX11_taken_54 ?_
      refine va_get (D := D) (ci := 8) (v := .ref (r8 2)) (C := RX8) (T := TX8) (N := 4) hx hb hts w4 hown hK.1 hP 2 rfl rfl 2 (by decide) w3 (fun _ h9 => h9) rfl dX11_taken_57 ?_
      refine lv_iload_n hx hb dX11_taken_60 rfl (lv_at hl 1 rfl) ?_
      refine va_iald hx hb hK.1 hP 4 1 rfl rfl (i := p1) (ix (by omega) (by omega)) dX11_taken_61 ?_
      refine lv_topi (fun x17 e18 => ?_)
      have h19 : 0 ≤ x17.toInt ∧ x17.toInt ≤ 7 := by rw [e18]; exact hf8_bodyKinds _
      refine lv_iload_n hx hb dX11_taken_62 rfl (lv_at hl 2 rfl) ?_
      refine kcm_i hA hAB hP hD hS [false, true, false, false, false] rfl (fun _ => rfl) (fun hPc hDc => va_runV (As := [.int x17, .int p2]) (rest := []) ⟨hx, hb, hml, hown, hts⟩ (k_X0_isUnder l D κ β a0 r0 v0_count v0_ran v0_actor H.size x17 p2 i1 i2 i3 (by omega)) (cwV 2 hts gX11_taken_X0_isUnder rfl rfl rfl (by decide +kernel) ⟨Nat.le_of_ble_eq_true rfl, Nat.le_of_ble_eq_true rfl⟩) (pk_V hK hS hAB hPc hDc 0 (ci := 0) rfl rfl rfl) rfl rfl hl.1 rfl (lv_room (Nat.le_of_ble_eq_true rfl)) dX11_taken_63 ⟨Nat.le_of_ble_eq_true rfl, Nat.le_of_ble_eq_true rfl⟩) (fun x20 u21 H locs hw hPD hS => ?_)
      have h22 : x20.toInt = 0 ∨ x20.toInt = 1 := hw
      obtain ⟨hP, hD⟩ : PD D A [O11 a11 a7 a5 a3 a2 a6 a4 a10 a9 a1 a0 a8 aN, O0 a0 r0 v0_count v0_ran v0_actor, O8 a8 r8, (cI κ (r8 0) 6 f8_sorts), (cI κ (r8 2) 6 f8_bodyKinds)] H := hPD
      refine lv_if_ne (tgt := 72) hx hb dX11_taken_66 (by decide) (fun c23 => ?_) (fun c23 => ?_)
      · have c23 := ci_ne c23
        refine lv_aload_n hx hb dX11_taken_72 rfl (lv_at hl 0 rfl) ?_
        refine va_get (D := D) (ci := 11) (v := .ref a8) (C := RX11) (T := TX11) (N := 12) hx hb hts w1 hown hK.1 hP 0 rfl rfl 10 (by decide) w0 (fun _ h9 => h9) rfl dX11_taken_73 ?_
        refine va_get (D := D) (ci := 8) (v := .ref (r8 2)) (C := RX8) (T := TX8) (N := 4) hx hb hts w4 hown hK.1 hP 2 rfl rfl 2 (by decide) w3 (fun _ h9 => h9) rfl dX11_taken_76 ?_
        refine lv_iload_n hx hb dX11_taken_79 rfl (lv_at hl 1 rfl) ?_
        refine va_iald hx hb hK.1 hP 4 1 rfl rfl (i := p1) (ix (by omega) (by omega)) dX11_taken_80 ?_
        refine lv_topi (fun x24 e25 => ?_)
        have h26 : 0 ≤ x24.toInt ∧ x24.toInt ≤ 7 := by rw [e25]; exact hf8_bodyKinds _
        exact ret _ _ _ _ x24 () dX11_taken_81 trivial hP hD hS
      have c23 := ci_eq c23
      refine lv_bipush (v := (-12)) hx hb dX11_taken_69 (by decide) ?_
      exact ret _ _ _ _ (-12) () dX11_taken_71 trivial hP hD hS
    have c12 := ci_ne c12
    refine lv_bipush (v := (-11)) hx hb dX11_taken_34 (by decide) ?_
    exact ret _ _ _ _ (-11) () dX11_taken_36 trivial hP hD hS
  have c8 := ci_eq c8
  refine lv_iconst (v := (-1)) hx hb dX11_taken_21 (by decide) ?_
  exact ret _ _ _ _ (-1) () dX11_taken_22 trivial hP hD hS
set_option maxHeartbeats 4000000 in
set_option maxRecDepth 100000 in
theorem k_X11_dotComes (l : Launch) (D : va_G) (κ : Nat → ClassId) (β : Nat) (a11 : Nat) (a7 : Nat) (a5 : Nat) (a3 : Nat) (a2 : Nat) (a6 : Nat) (a4 : Nat) (a10 : Nat) (a9 : Nat) (a1 : Nat) (a0 : Nat) (a8 : Nat) (aN : Nat) (r2 : Nat → Nat) (r8 : Nat → Nat) (v2_count : Int32) (v2_madeIn : Int32) (v2_bound : Int32) (f2_houses : Nat → Int32) (f2_inks : Nat → Int32) (f2_stuffs : Nat → Int32) (f8_lengths : Nat → Int32) (g8 : Nat → Nat) (F8 : Nat → Nat → Int64) (sz : Nat) (p1 : Int32) (p2 : Int32) (i1 : Rg 0 40 v2_count) (hf8_lengths : ∀ j : Nat, 0 ≤ (f8_lengths j).toInt ∧ (f8_lengths j).toInt ≤ 60) (i2 : 0 ≤ p1.toInt ∧ p1.toInt ≤ 5) : Met l yX11_dotComes wsX11_dotComes ({ frames := 3, cells := 0, slots := 0, locals := 64 } : Room) (PcK D κ β [O11 a11 a7 a5 a3 a2 a6 a4 a10 a9 a1 a0 a8 aN, O2 a2 r2 v2_count v2_madeIn v2_bound, (cI κ (r2 0) 40 f2_houses), (cI κ (r2 1) 40 f2_inks), (cI κ (r2 2) 40 f2_stuffs), O8 a8 r8, (cI κ (r8 1) 6 f8_lengths), (cRJ κ (r8 3) 6 (fun i => some (g8 i))), (cJ κ (g8 0) 60 (F8 0)), (cJ κ (g8 1) 60 (F8 1)), (cJ κ (g8 2) 60 (F8 2)), (cJ κ (g8 3) 60 (F8 3)), (cJ κ (g8 4) 60 (F8 4)), (cJ κ (g8 5) 60 (F8 5))] sz [.ref a11, .int p1, .int p2]) (QiK D (fun (r : Int32) (u : Int32 × (Nat → Int32) × (Nat → Int32) × (Nat → Int32)) => (0 ≤ u.1.toInt ∧ u.1.toInt ≤ 40) ∧ (r.toInt = 0 ∨ r.toInt = 1)) (fun (u : Int32 × (Nat → Int32) × (Nat → Int32) × (Nat → Int32)) => [O11 a11 a7 a5 a3 a2 a6 a4 a10 a9 a1 a0 a8 aN, O2 a2 r2 u.1 v2_madeIn v2_bound, (cI κ (r2 0) 40 u.2.1), (cI κ (r2 1) 40 u.2.2.1), (cI κ (r2 2) 40 u.2.2.2), O8 a8 r8, (cI κ (r8 1) 6 f8_lengths), (cRJ κ (r8 3) 6 (fun i => some (g8 i))), (cJ κ (g8 0) 60 (F8 0)), (cJ κ (g8 1) 60 (F8 1)), (cJ κ (g8 2) 60 (F8 2)), (cJ κ (g8 3) 60 (F8 3)), (cJ κ (g8 4) 60 (F8 4)), (cJ κ (g8 5) 60 (F8 5))]) [O11 a11 a7 a5 a3 a2 a6 a4 a10 a9 a1 a0 a8 aN, O2 a2 r2 v2_count v2_madeIn v2_bound, (cI κ (r2 0) 40 f2_houses), (cI κ (r2 1) 40 f2_inks), (cI κ (r2 2) 40 f2_stuffs), O8 a8 r8, (cI κ (r8 1) 6 f8_lengths), (cRJ κ (r8 3) 6 (fun i => some (g8 i))), (cJ κ (g8 0) 60 (F8 0)), (cJ κ (g8 1) 60 (F8 1)), (cJ κ (g8 2) 60 (F8 2)), (cJ κ (g8 3) 60 (F8 3)), (cJ κ (g8 4) 60 (F8 4)), (cJ κ (g8 5) 60 (F8 5))] sz) 0 0 (va_A [O11 a11 a7 a5 a3 a2 a6 a4 a10 a9 a1 a0 a8 aN, O2 a2 r2 v2_count v2_madeIn v2_bound, (cI κ (r2 0) 40 f2_houses), (cI κ (r2 1) 40 f2_inks), (cI κ (r2 2) 40 f2_stuffs), O8 a8 r8, (cI κ (r8 1) 6 f8_lengths), (cRJ κ (r8 3) 6 (fun i => some (g8 i))), (cJ κ (g8 0) 60 (F8 0)), (cJ κ (g8 1) 60 (F8 1)), (cJ κ (g8 2) 60 (F8 2)), (cJ κ (g8 3) 60 (F8 3)), (cJ κ (g8 4) 60 (F8 4)), (cJ κ (g8 5) 60 (F8 5))] sz) := by
  refine ofK_z (cc := cX11_dotComes) (maxL := 6) (own := RX11) (by decide) rfl rfl (Nat.le_of_ble_eq_true rfl) ?_
  intro p e s m args below meth c Q A ls hsz hx hb hml hts hown hK hA hAB hP hD hl ret
  have hS : va_S A s.heap s.heap [] := va_S.rf
  have hl : lv_has ls 6 [(0, .ref a11), (1, .int p1), (2, .int p2)] := hl
  have w0 := hts (.fieldLink RX11 33 "OlderSkin" "dots" "LOlderSkin$Dots;") (List.mem_of_getElem? (i := 1) rfl)
  have w1 := (fun w h => List.mem_cons_of_mem _ (List.mem_append_left _ (List.mem_append_left _ (List.mem_append_right _ h))) : ∀ w ∈ u_ws RX11 TX11 12, w ∈ wsX11_dotComes)
  have w2 := hts (.fieldLink RX11 82 "OlderSkin" "shelves" "LOlderSkin$Shelves;") (List.mem_of_getElem? (i := 2) rfl)
  have w3 := hts (.fieldLink RX11 240 "OlderSkin$Shelves" "values" "[[J") (List.mem_of_getElem? (i := 3) rfl)
  have w4 := (fun w h => List.mem_cons_of_mem _ (List.mem_append_left _ (List.mem_append_right _ h)) : ∀ w ∈ u_ws RX8 TX8 4, w ∈ wsX11_dotComes)
  have l0 : (0 : Int32).toInt = 0 := by decide
  have l1 : (3 : Int32).toInt = 3 := by decide
  have l2 : (1 : Int32).toInt = 1 := by decide
  have l3 : (2 : Int32).toInt = 2 := by decide
  have i1 : 0 ≤ v2_count.toInt ∧ v2_count.toInt ≤ 40 := i1
  refine lv_aload_n hx hb dX11_dotComes_0 rfl (lv_at hl 0 rfl) ?_
  refine va_get (D := D) (ci := 11) (v := .ref a2) (C := RX11) (T := TX11) (N := 12) hx hb hts w1 hown hK.1 hP 0 rfl rfl 3 (by decide) w0 (fun _ h9 => h9) rfl dX11_dotComes_1 ?_
  refine kcm_i hA hAB hP hD hS [false, true, false, false, true, false, false, false, false, false, false, false, false, false] rfl (fun _ => rfl) (fun hPc hDc => va_runV (As := []) (rest := []) ⟨hx, hb, hml, hown, hts⟩ (k_X2_isFull l D κ β a2 r2 v2_count v2_madeIn v2_bound f2_stuffs s.heap.size i1) (cwV 0 hts gX11_dotComes_X2_isFull rfl rfl rfl (by decide +kernel) ⟨Nat.le_of_ble_eq_true rfl, Nat.le_of_ble_eq_true rfl⟩) (pk_V hK hS hAB hPc hDc 0 (ci := 2) rfl rfl rfl) rfl rfl hl.1 rfl (lv_room (Nat.le_of_ble_eq_true rfl)) dX11_dotComes_4 ⟨Nat.le_of_ble_eq_true rfl, Nat.le_of_ble_eq_true rfl⟩) (fun x1 u2 H locs hw hPD hS => ?_)
  have h3 : (x1.toInt = 1 ∧ v2_count.toInt = 40) ∨ (x1.toInt = 0 ∧ v2_count.toInt < 40) := hw
  obtain ⟨hP, hD⟩ : PD D A [O11 a11 a7 a5 a3 a2 a6 a4 a10 a9 a1 a0 a8 aN, O2 a2 r2 v2_count v2_madeIn v2_bound, (cI κ (r2 0) 40 f2_houses), (cI κ (r2 1) 40 f2_inks), (cI κ (r2 2) 40 f2_stuffs), O8 a8 r8, (cI κ (r8 1) 6 f8_lengths), (cRJ κ (r8 3) 6 (fun i => some (g8 i))), (cJ κ (g8 0) 60 (F8 0)), (cJ κ (g8 1) 60 (F8 1)), (cJ κ (g8 2) 60 (F8 2)), (cJ κ (g8 3) 60 (F8 3)), (cJ κ (g8 4) 60 (F8 4)), (cJ κ (g8 5) 60 (F8 5))] H := hPD
  refine lv_if_ne (tgt := 23) hx hb dX11_dotComes_7 (by decide) (fun c4 => ?_) (fun c4 => ?_)
  · have c4 := ci_ne c4
    refine lv_iconst (v := 0) hx hb dX11_dotComes_23 (by decide) ?_
    have hpo : (0 ≤ v2_count.toInt ∧ v2_count.toInt ≤ 40) ∧ ((0 : Int32).toInt = 0 ∨ (0 : Int32).toInt = 1) := ⟨i1, (by omega)⟩
    exact ret _ _ _ _ 0 (v2_count, f2_houses, f2_inks, f2_stuffs) dX11_dotComes_24 (by omega) hpo hP hD hS
  have c4 := ci_eq c4
  refine lv_aload_n hx hb dX11_dotComes_10 rfl (lv_at hl 0 rfl) ?_
  refine va_get (D := D) (ci := 11) (v := .ref a8) (C := RX11) (T := TX11) (N := 12) hx hb hts w1 hown hK.1 hP 0 rfl rfl 10 (by decide) w2 (fun _ h9 => h9) rfl dX11_dotComes_11 ?_
  refine lv_iload_n hx hb dX11_dotComes_14 rfl (lv_at hl 1 rfl) ?_
  refine lv_iload_n hx hb dX11_dotComes_15 rfl (lv_at hl 2 rfl) ?_
  refine lv_iconst (v := 3) hx hb dX11_dotComes_16 (by decide) ?_
  refine kcm_i hA hAB hP hD hS [false, false, false, false, false, true, true, false, false, false, false, false, false, false] rfl (fun _ => rfl) (fun hPc hDc => va_runV (As := [.int p1, .int p2, .int 3]) (rest := []) ⟨hx, hb, hml, hown, hts⟩ (k_X8_hasPlaces l D κ β a8 r8 f8_lengths H.size p1 p2 3 hf8_lengths (by omega)) (cwV 3 hts gX11_dotComes_X8_hasPlaces rfl rfl rfl (by decide +kernel) ⟨Nat.le_of_ble_eq_true rfl, Nat.le_of_ble_eq_true rfl⟩) (pk_V hK hS hAB hPc hDc 0 (ci := 8) rfl rfl rfl) rfl rfl hl.1 rfl (lv_room (Nat.le_of_ble_eq_true rfl)) dX11_dotComes_17 ⟨Nat.le_of_ble_eq_true rfl, Nat.le_of_ble_eq_true rfl⟩) (fun x5 u6 H locs hw hPD hS => ?_)
  have h7 : (x5.toInt = 1 ∧ 0 ≤ p2.toInt ∧ 0 ≤ (3 : Int32).toInt ∧ p2.toInt + (3 : Int32).toInt ≤ 60) ∨ x5.toInt = 0 := hw
  obtain ⟨hP, hD⟩ : PD D A [O11 a11 a7 a5 a3 a2 a6 a4 a10 a9 a1 a0 a8 aN, O2 a2 r2 v2_count v2_madeIn v2_bound, (cI κ (r2 0) 40 f2_houses), (cI κ (r2 1) 40 f2_inks), (cI κ (r2 2) 40 f2_stuffs), O8 a8 r8, (cI κ (r8 1) 6 f8_lengths), (cRJ κ (r8 3) 6 (fun i => some (g8 i))), (cJ κ (g8 0) 60 (F8 0)), (cJ κ (g8 1) 60 (F8 1)), (cJ κ (g8 2) 60 (F8 2)), (cJ κ (g8 3) 60 (F8 3)), (cJ κ (g8 4) 60 (F8 4)), (cJ κ (g8 5) 60 (F8 5))] H := hPD
  refine lv_if_ne (tgt := 25) hx hb dX11_dotComes_20 (by decide) (fun c8 => ?_) (fun c8 => ?_)
  · have c8 := ci_ne c8
    refine lv_aload_n hx hb dX11_dotComes_25 rfl (lv_at hl 0 rfl) ?_
    refine va_get (D := D) (ci := 11) (v := .ref a8) (C := RX11) (T := TX11) (N := 12) hx hb hts w1 hown hK.1 hP 0 rfl rfl 10 (by decide) w2 (fun _ h9 => h9) rfl dX11_dotComes_26 ?_
    refine va_get (D := D) (ci := 8) (v := .ref (r8 3)) (C := RX8) (T := TX8) (N := 4) hx hb hts w4 hown hK.1 hP 5 rfl rfl 3 (by decide) w3 (fun _ h9 => h9) rfl dX11_dotComes_29 ?_
    refine lv_iload_n hx hb dX11_dotComes_32 rfl (lv_at hl 1 rfl) ?_
    obtain ⟨j9, hj9, ej9⟩ : ∃ y : Nat, y < 6 ∧ p1.toNatClampNeg = y := ⟨_, by have := ci_clamp (i := p1) (by omega); omega, rfl⟩
    refine va_aldG rfl hx hb hK.1 hP 7 5 rfl rfl (i := p1) (j := j9) ej9 (ix (by omega) (by omega)) dX11_dotComes_33 ?_
    refine lv_iload_n hx hb dX11_dotComes_34 rfl (lv_at hl 2 rfl) ?_
    have hw10 : ([O11 a11 a7 a5 a3 a2 a6 a4 a10 a9 a1 a0 a8 aN, O2 a2 r2 v2_count v2_madeIn v2_bound, (cI κ (r2 0) 40 f2_houses), (cI κ (r2 1) 40 f2_inks), (cI κ (r2 2) 40 f2_stuffs), O8 a8 r8, (cI κ (r8 1) 6 f8_lengths), (cRJ κ (r8 3) 6 (fun i => some (g8 i))), (cJ κ (g8 0) 60 (F8 0)), (cJ κ (g8 1) 60 (F8 1)), (cJ κ (g8 2) 60 (F8 2)), (cJ κ (g8 3) 60 (F8 3)), (cJ κ (g8 4) 60 (F8 4)), (cJ κ (g8 5) 60 (F8 5))] : va_W)[8 + j9]? = some (g8 j9, .inl (κ 2, 60, .inr (.inl (F8 j9)))) := by rcases six hj9 with h | h | h | h | h | h <;> (subst h; rfl)
    refine va_lald hx hb hK.1 hP (8 + j9) 2 hw10 rfl (i := p2) (ix (by omega) (by omega)) dX11_dotComes_35 ?_
    refine lv_topl (fun x11 e12 => ?_)
    refine lv_l2i hx hb dX11_dotComes_36 rfl ?_
    refine lv_topi (fun x13 e14 => ?_)
    refine lv_istore_n (lv' := [(3, .int x13), (0, .ref a11), (1, .int p1), (2, .int p2)]) hx hb dX11_dotComes_37 rfl hl (by decide) rfl (fun ls hl => ?_)
    refine lv_aload_n hx hb dX11_dotComes_38 rfl (lv_at hl 1 rfl) ?_
    refine va_get (D := D) (ci := 11) (v := .ref a8) (C := RX11) (T := TX11) (N := 12) hx hb hts w1 hown hK.1 hP 0 rfl rfl 10 (by decide) w2 (fun _ h9 => h9) rfl dX11_dotComes_39 ?_
    refine va_get (D := D) (ci := 8) (v := .ref (r8 3)) (C := RX8) (T := TX8) (N := 4) hx hb hts w4 hown hK.1 hP 5 rfl rfl 3 (by decide) w3 (fun _ h9 => h9) rfl dX11_dotComes_42 ?_
    refine lv_iload_n hx hb dX11_dotComes_45 rfl (lv_at hl 2 rfl) ?_
    obtain ⟨j15, hj15, ej15⟩ : ∃ y : Nat, y < 6 ∧ p1.toNatClampNeg = y := ⟨_, by have := ci_clamp (i := p1) (by omega); omega, rfl⟩
    refine va_aldG rfl hx hb hK.1 hP 7 5 rfl rfl (i := p1) (j := j15) ej15 (ix (by omega) (by omega)) dX11_dotComes_46 ?_
    refine lv_iload_n hx hb dX11_dotComes_47 rfl (lv_at hl 3 rfl) ?_
    refine lv_iconst (v := 1) hx hb dX11_dotComes_48 (by decide) ?_
    refine lv_iadd hx hb dX11_dotComes_49 ?_
    refine lv_topi (fun x16 e17 => ?_)
    try have h18 : x16.toInt = p2.toInt + (1 : Int32).toInt := ci_add e17 (by omega) (by omega)
    have hw19 : ([O11 a11 a7 a5 a3 a2 a6 a4 a10 a9 a1 a0 a8 aN, O2 a2 r2 v2_count v2_madeIn v2_bound, (cI κ (r2 0) 40 f2_houses), (cI κ (r2 1) 40 f2_inks), (cI κ (r2 2) 40 f2_stuffs), O8 a8 r8, (cI κ (r8 1) 6 f8_lengths), (cRJ κ (r8 3) 6 (fun i => some (g8 i))), (cJ κ (g8 0) 60 (F8 0)), (cJ κ (g8 1) 60 (F8 1)), (cJ κ (g8 2) 60 (F8 2)), (cJ κ (g8 3) 60 (F8 3)), (cJ κ (g8 4) 60 (F8 4)), (cJ κ (g8 5) 60 (F8 5))] : va_W)[8 + j15]? = some (g8 j15, .inl (κ 2, 60, .inr (.inl (F8 j15)))) := by rcases six hj15 with h | h | h | h | h | h <;> (subst h; rfl)
    refine va_lald hx hb hK.1 hP (8 + j15) 2 hw19 rfl (i := x16) (ix (by omega) (by omega)) dX11_dotComes_50 ?_
    refine lv_topl (fun x20 e21 => ?_)
    refine lv_l2i hx hb dX11_dotComes_51 rfl ?_
    refine lv_topi (fun x22 e23 => ?_)
    refine lv_istore (lv' := [(4, .int x22), (3, .int x13), (0, .ref a11), (1, .int p1), (2, .int p2)]) hx hb dX11_dotComes_52 hl (by decide) rfl (fun ls hl => ?_)
    refine lv_aload_n hx hb dX11_dotComes_54 rfl (lv_at hl 2 rfl) ?_
    refine va_get (D := D) (ci := 11) (v := .ref a8) (C := RX11) (T := TX11) (N := 12) hx hb hts w1 hown hK.1 hP 0 rfl rfl 10 (by decide) w2 (fun _ h9 => h9) rfl dX11_dotComes_55 ?_
    refine va_get (D := D) (ci := 8) (v := .ref (r8 3)) (C := RX8) (T := TX8) (N := 4) hx hb hts w4 hown hK.1 hP 5 rfl rfl 3 (by decide) w3 (fun _ h9 => h9) rfl dX11_dotComes_58 ?_
    refine lv_iload_n hx hb dX11_dotComes_61 rfl (lv_at hl 3 rfl) ?_
    obtain ⟨j24, hj24, ej24⟩ : ∃ y : Nat, y < 6 ∧ p1.toNatClampNeg = y := ⟨_, by have := ci_clamp (i := p1) (by omega); omega, rfl⟩
    refine va_aldG rfl hx hb hK.1 hP 7 5 rfl rfl (i := p1) (j := j24) ej24 (ix (by omega) (by omega)) dX11_dotComes_62 ?_
    refine lv_iload_n hx hb dX11_dotComes_63 rfl (lv_at hl 4 rfl) ?_
    refine lv_iconst (v := 2) hx hb dX11_dotComes_64 (by decide) ?_
    refine lv_iadd hx hb dX11_dotComes_65 ?_
    refine lv_topi (fun x25 e26 => ?_)
    try have h27 : x25.toInt = p2.toInt + (2 : Int32).toInt := ci_add e26 (by omega) (by omega)
    have hw28 : ([O11 a11 a7 a5 a3 a2 a6 a4 a10 a9 a1 a0 a8 aN, O2 a2 r2 v2_count v2_madeIn v2_bound, (cI κ (r2 0) 40 f2_houses), (cI κ (r2 1) 40 f2_inks), (cI κ (r2 2) 40 f2_stuffs), O8 a8 r8, (cI κ (r8 1) 6 f8_lengths), (cRJ κ (r8 3) 6 (fun i => some (g8 i))), (cJ κ (g8 0) 60 (F8 0)), (cJ κ (g8 1) 60 (F8 1)), (cJ κ (g8 2) 60 (F8 2)), (cJ κ (g8 3) 60 (F8 3)), (cJ κ (g8 4) 60 (F8 4)), (cJ κ (g8 5) 60 (F8 5))] : va_W)[8 + j24]? = some (g8 j24, .inl (κ 2, 60, .inr (.inl (F8 j24)))) := by rcases six hj24 with h | h | h | h | h | h <;> (subst h; rfl)
    refine va_lald hx hb hK.1 hP (8 + j24) 2 hw28 rfl (i := x25) (ix (by omega) (by omega)) dX11_dotComes_66 ?_
    refine lv_topl (fun x29 e30 => ?_)
    refine lv_l2i hx hb dX11_dotComes_67 rfl ?_
    refine lv_topi (fun x31 e32 => ?_)
    refine lv_istore (lv' := [(5, .int x31), (4, .int x22), (3, .int x13), (0, .ref a11), (1, .int p1), (2, .int p2)]) hx hb dX11_dotComes_68 hl (by decide) rfl (fun ls hl => ?_)
    refine lv_iload_n hx hb dX11_dotComes_70 rfl (lv_at hl 2 rfl) ?_
    refine lv_iload hx hb dX11_dotComes_71 (lv_at hl 1 rfl) ?_
    refine lv_iload hx hb dX11_dotComes_73 (lv_at hl 0 rfl) ?_
    refine kcm_i hA hAB hP hD hS [false, false, false, false, false, false, false, false, false, false, false, false, false, false] rfl (fun _ => rfl) (fun hPc hDc => va_runS (As := [.int x13, .int x22, .int x31]) (rest := []) ⟨hx, hb, hml, hown, hts⟩ (k_X11_isDot l D κ β H.size x13 x22 x31) (va_cwS 3 hts gX11_dotComes_X11_isDot rfl rfl rfl (by decide +kernel) ⟨Nat.le_of_ble_eq_true rfl, Nat.le_of_ble_eq_true rfl⟩) (pk_S hK hS hAB hPc hDc) rfl rfl hl.1 rfl (lv_room (Nat.le_of_ble_eq_true rfl)) dX11_dotComes_75 ⟨Nat.le_of_ble_eq_true rfl, Nat.le_of_ble_eq_true rfl⟩) (fun x33 u34 H locs hw hPD hS => ?_)
    have h35 : (x33.toInt = 1 ∧ 0 ≤ x13.toInt ∧ x13.toInt ≤ 4 ∧ 0 ≤ x22.toInt ∧ x22.toInt ≤ 7 ∧ 0 ≤ x31.toInt ∧ x31.toInt ≤ 9999) ∨ (x33.toInt = 0 ∧ (x13.toInt < 0 ∨ 4 < x13.toInt ∨ x22.toInt < 0 ∨ 7 < x22.toInt ∨ x31.toInt < 0 ∨ 9999 < x31.toInt)) := hw
    obtain ⟨hP, hD⟩ : PD D A [O11 a11 a7 a5 a3 a2 a6 a4 a10 a9 a1 a0 a8 aN, O2 a2 r2 v2_count v2_madeIn v2_bound, (cI κ (r2 0) 40 f2_houses), (cI κ (r2 1) 40 f2_inks), (cI κ (r2 2) 40 f2_stuffs), O8 a8 r8, (cI κ (r8 1) 6 f8_lengths), (cRJ κ (r8 3) 6 (fun i => some (g8 i))), (cJ κ (g8 0) 60 (F8 0)), (cJ κ (g8 1) 60 (F8 1)), (cJ κ (g8 2) 60 (F8 2)), (cJ κ (g8 3) 60 (F8 3)), (cJ κ (g8 4) 60 (F8 4)), (cJ κ (g8 5) 60 (F8 5))] H := hPD
    refine lv_if_ne (tgt := 83) hx hb dX11_dotComes_78 (by decide) (fun c36 => ?_) (fun c36 => ?_)
    · have c36 := ci_ne c36
      refine lv_aload_n hx hb dX11_dotComes_83 rfl (lv_at hl 3 rfl) ?_
      refine va_get (D := D) (ci := 11) (v := .ref a2) (C := RX11) (T := TX11) (N := 12) hx hb hts w1 hown hK.1 hP 0 rfl rfl 3 (by decide) w0 (fun _ h9 => h9) rfl dX11_dotComes_84 ?_
      refine lv_iload_n hx hb dX11_dotComes_87 rfl (lv_at hl 2 rfl) ?_
      refine lv_iload hx hb dX11_dotComes_88 (lv_at hl 1 rfl) ?_
      refine lv_iload hx hb dX11_dotComes_90 (lv_at hl 0 rfl) ?_
      refine kcm_i hA hAB hP hD hS [false, true, true, true, true, false, false, false, false, false, false, false, false, false] rfl (fun _ => rfl) (fun hPc hDc => va_runV (As := [.int x13, .int x22, .int x31]) (rest := []) ⟨hx, hb, hml, hown, hts⟩ (k_X2_add l D κ β a2 r2 v2_count v2_madeIn v2_bound f2_houses f2_inks f2_stuffs H.size x13 x22 x31 i1) (cwV 3 hts gX11_dotComes_X2_add rfl rfl rfl (by decide +kernel) ⟨Nat.le_of_ble_eq_true rfl, Nat.le_of_ble_eq_true rfl⟩) (pk_V hK hS hAB hPc hDc 0 (ci := 2) rfl rfl rfl) rfl rfl hl.1 rfl (lv_room (Nat.le_of_ble_eq_true rfl)) dX11_dotComes_92 ⟨Nat.le_of_ble_eq_true rfl, Nat.le_of_ble_eq_true rfl⟩) (fun x41 u42 H locs hw hPD hS => ?_)
      obtain ⟨x37, g38, g39, g40⟩ := u42
      obtain ⟨h43, h44⟩ : (0 ≤ x37.toInt ∧ x37.toInt ≤ 40) ∧ ((v2_count.toInt = 40 ∧ x41.toInt = -3 ∧ x37.toInt = v2_count.toInt) ∨ (v2_count.toInt < 40 ∧ x41.toInt = v2_count.toInt ∧ x37.toInt = v2_count.toInt + 1)) := hw
      obtain ⟨hP, hD⟩ : PD D A [O11 a11 a7 a5 a3 a2 a6 a4 a10 a9 a1 a0 a8 aN, O2 a2 r2 x37 v2_madeIn v2_bound, (cI κ (r2 0) 40 g38), (cI κ (r2 1) 40 g39), (cI κ (r2 2) 40 g40), O8 a8 r8, (cI κ (r8 1) 6 f8_lengths), (cRJ κ (r8 3) 6 (fun i => some (g8 i))), (cJ κ (g8 0) 60 (F8 0)), (cJ κ (g8 1) 60 (F8 1)), (cJ κ (g8 2) 60 (F8 2)), (cJ κ (g8 3) 60 (F8 3)), (cJ κ (g8 4) 60 (F8 4)), (cJ κ (g8 5) 60 (F8 5))] H := hPD
      refine lv_pop hx hb dX11_dotComes_95 rfl ?_
      refine lv_iconst (v := 1) hx hb dX11_dotComes_96 (by decide) ?_
      have hpo : (0 ≤ x37.toInt ∧ x37.toInt ≤ 40) ∧ ((1 : Int32).toInt = 0 ∨ (1 : Int32).toInt = 1) := ⟨h43, (by omega)⟩
      exact ret _ _ _ _ 1 (x37, g38, g39, g40) dX11_dotComes_97 (by omega) hpo hP hD hS
    have c36 := ci_eq c36
    refine lv_iconst (v := 0) hx hb dX11_dotComes_81 (by decide) ?_
    have hpo : (0 ≤ v2_count.toInt ∧ v2_count.toInt ≤ 40) ∧ ((0 : Int32).toInt = 0 ∨ (0 : Int32).toInt = 1) := ⟨i1, (by omega)⟩
    exact ret _ _ _ _ 0 (v2_count, f2_houses, f2_inks, f2_stuffs) dX11_dotComes_82 (by omega) hpo hP hD hS
  have c8 := ci_eq c8
  refine lv_iconst (v := 0) hx hb dX11_dotComes_23 (by decide) ?_
  have hpo : (0 ≤ v2_count.toInt ∧ v2_count.toInt ≤ 40) ∧ ((0 : Int32).toInt = 0 ∨ (0 : Int32).toInt = 1) := ⟨i1, (by omega)⟩
  exact ret _ _ _ _ 0 (v2_count, f2_houses, f2_inks, f2_stuffs) dX11_dotComes_24 (by omega) hpo hP hD hS
set_option maxHeartbeats 4000000 in
set_option maxRecDepth 100000 in
theorem k_X11_dots (l : Launch) (D : va_G) (κ : Nat → ClassId) (β : Nat) (a11 : Nat) (a7 : Nat) (a5 : Nat) (a3 : Nat) (a2 : Nat) (a6 : Nat) (a4 : Nat) (a10 : Nat) (a9 : Nat) (a1 : Nat) (a0 : Nat) (a8 : Nat) (aN : Nat) (r2 : Nat → Nat) (r8 : Nat → Nat) (v2_count : Int32) (v2_madeIn : Int32) (v2_bound : Int32) (f2_houses : Nat → Int32) (f2_inks : Nat → Int32) (f2_stuffs : Nat → Int32) (f8_sorts : Nat → Int32) (f8_lengths : Nat → Int32) (g8 : Nat → Nat) (F8 : Nat → Nat → Int64) (sz : Nat) (p1 : Int32) (p2 : Int32) (p3 : Int32) (i1 : Rg 0 40 v2_count) (hf8_lengths : ∀ j : Nat, 0 ≤ (f8_lengths j).toInt ∧ (f8_lengths j).toInt ≤ 60) : Met l yX11_dots wsX11_dots ({ frames := 4, cells := 0, slots := 0, locals := 89 } : Room) (PcK D κ β [O11 a11 a7 a5 a3 a2 a6 a4 a10 a9 a1 a0 a8 aN, O2 a2 r2 v2_count v2_madeIn v2_bound, (cI κ (r2 0) 40 f2_houses), (cI κ (r2 1) 40 f2_inks), (cI κ (r2 2) 40 f2_stuffs), O8 a8 r8, (cI κ (r8 0) 6 f8_sorts), (cI κ (r8 1) 6 f8_lengths), (cRJ κ (r8 3) 6 (fun i => some (g8 i))), (cJ κ (g8 0) 60 (F8 0)), (cJ κ (g8 1) 60 (F8 1)), (cJ κ (g8 2) 60 (F8 2)), (cJ κ (g8 3) 60 (F8 3)), (cJ κ (g8 4) 60 (F8 4)), (cJ κ (g8 5) 60 (F8 5))] sz [.ref a11, .int p1, .int p2, .int p3]) (QiK D (fun (r : Int32) (u : Int32 × (Nat → Int32) × (Nat → Int32) × (Nat → Int32)) => 0 ≤ u.1.toInt ∧ u.1.toInt ≤ 40) (fun (u : Int32 × (Nat → Int32) × (Nat → Int32) × (Nat → Int32)) => [O11 a11 a7 a5 a3 a2 a6 a4 a10 a9 a1 a0 a8 aN, O2 a2 r2 u.1 v2_madeIn v2_bound, (cI κ (r2 0) 40 u.2.1), (cI κ (r2 1) 40 u.2.2.1), (cI κ (r2 2) 40 u.2.2.2), O8 a8 r8, (cI κ (r8 0) 6 f8_sorts), (cI κ (r8 1) 6 f8_lengths), (cRJ κ (r8 3) 6 (fun i => some (g8 i))), (cJ κ (g8 0) 60 (F8 0)), (cJ κ (g8 1) 60 (F8 1)), (cJ κ (g8 2) 60 (F8 2)), (cJ κ (g8 3) 60 (F8 3)), (cJ κ (g8 4) 60 (F8 4)), (cJ κ (g8 5) 60 (F8 5))]) [O11 a11 a7 a5 a3 a2 a6 a4 a10 a9 a1 a0 a8 aN, O2 a2 r2 v2_count v2_madeIn v2_bound, (cI κ (r2 0) 40 f2_houses), (cI κ (r2 1) 40 f2_inks), (cI κ (r2 2) 40 f2_stuffs), O8 a8 r8, (cI κ (r8 0) 6 f8_sorts), (cI κ (r8 1) 6 f8_lengths), (cRJ κ (r8 3) 6 (fun i => some (g8 i))), (cJ κ (g8 0) 60 (F8 0)), (cJ κ (g8 1) 60 (F8 1)), (cJ κ (g8 2) 60 (F8 2)), (cJ κ (g8 3) 60 (F8 3)), (cJ κ (g8 4) 60 (F8 4)), (cJ κ (g8 5) 60 (F8 5))] sz) 0 0 (va_A [O11 a11 a7 a5 a3 a2 a6 a4 a10 a9 a1 a0 a8 aN, O2 a2 r2 v2_count v2_madeIn v2_bound, (cI κ (r2 0) 40 f2_houses), (cI κ (r2 1) 40 f2_inks), (cI κ (r2 2) 40 f2_stuffs), O8 a8 r8, (cI κ (r8 0) 6 f8_sorts), (cI κ (r8 1) 6 f8_lengths), (cRJ κ (r8 3) 6 (fun i => some (g8 i))), (cJ κ (g8 0) 60 (F8 0)), (cJ κ (g8 1) 60 (F8 1)), (cJ κ (g8 2) 60 (F8 2)), (cJ κ (g8 3) 60 (F8 3)), (cJ κ (g8 4) 60 (F8 4)), (cJ κ (g8 5) 60 (F8 5))] sz) := by
  refine ofK_i (cc := cX11_dots) (maxL := 6) (own := RX11) (by decide) rfl rfl (Nat.le_of_ble_eq_true rfl) ?_
  intro p e s m args below meth c Q A ls hsz hx hb hml hts hown hK hA hAB hP hD hl ret
  have hS : va_S A s.heap s.heap [] := va_S.rf
  have hl : lv_has ls 6 [(0, .ref a11), (1, .int p1), (2, .int p2), (3, .int p3)] := hl
  have w0 := hts (.fieldLink RX11 82 "OlderSkin" "shelves" "LOlderSkin$Shelves;") (List.mem_of_getElem? (i := 1) rfl)
  have w1 := (fun w h => List.mem_cons_of_mem _ (List.mem_append_left _ (List.mem_append_left _ (List.mem_append_right _ h))) : ∀ w ∈ u_ws RX11 TX11 12, w ∈ wsX11_dots)
  have l0 : (0 : Int32).toInt = 0 := by decide
  have l1 : ((-1) : Int32).toInt = -1 := by decide
  have l2 : (1 : Int32).toInt = 1 := by decide
  have l3 : (20 : Int32).toInt = 20 := by decide
  have l4 : (3 : Int32).toInt = 3 := by decide
  have l5 : ((-12) : Int32).toInt = -12 := by decide
  refine lv_aload_n hx hb dX11_dots_0 rfl (lv_at hl 0 rfl) ?_
  refine va_get (D := D) (ci := 11) (v := .ref a8) (C := RX11) (T := TX11) (N := 12) hx hb hts w1 hown hK.1 hP 0 rfl rfl 10 (by decide) w0 (fun _ h9 => h9) rfl dX11_dots_1 ?_
  refine lv_iload_n hx hb dX11_dots_4 rfl (lv_at hl 1 rfl) ?_
  refine kcm_i hA hAB hP hD hS [false, false, false, false, false, true, true, false, false, false, false, false, false, false, false] rfl (fun _ => rfl) (fun hPc hDc => va_runV (As := [.int p1]) (rest := []) ⟨hx, hb, hml, hown, hts⟩ (k_X8_isShelf l D κ β a8 r8 f8_sorts s.heap.size p1) (cwV 1 hts gX11_dots_X8_isShelf rfl rfl rfl (by decide +kernel) ⟨Nat.le_of_ble_eq_true rfl, Nat.le_of_ble_eq_true rfl⟩) (pk_V hK hS hAB hPc hDc 0 (ci := 8) rfl rfl rfl) rfl rfl hl.1 rfl (lv_room (Nat.le_of_ble_eq_true rfl)) dX11_dots_5 ⟨Nat.le_of_ble_eq_true rfl, Nat.le_of_ble_eq_true rfl⟩) (fun x1 u2 H locs hw hPD hS => ?_)
  have h3 : (x1.toInt = 1 ∧ 0 ≤ p1.toInt ∧ p1.toInt ≤ 5) ∨ (x1.toInt = 0 ∧ (p1.toInt < 0 ∨ 5 < p1.toInt)) := hw
  obtain ⟨hP, hD⟩ : PD D A [O11 a11 a7 a5 a3 a2 a6 a4 a10 a9 a1 a0 a8 aN, O2 a2 r2 v2_count v2_madeIn v2_bound, (cI κ (r2 0) 40 f2_houses), (cI κ (r2 1) 40 f2_inks), (cI κ (r2 2) 40 f2_stuffs), O8 a8 r8, (cI κ (r8 0) 6 f8_sorts), (cI κ (r8 1) 6 f8_lengths), (cRJ κ (r8 3) 6 (fun i => some (g8 i))), (cJ κ (g8 0) 60 (F8 0)), (cJ κ (g8 1) 60 (F8 1)), (cJ κ (g8 2) 60 (F8 2)), (cJ κ (g8 3) 60 (F8 3)), (cJ κ (g8 4) 60 (F8 4)), (cJ κ (g8 5) 60 (F8 5))] H := hPD
  refine lv_if_eq (tgt := 21) hx hb dX11_dots_8 (by decide) (fun c4 => ?_) (fun c4 => ?_)
  · have c4 := ci_eq c4
    refine lv_iconst (v := (-1)) hx hb dX11_dots_21 (by decide) ?_
    have hpo : 0 ≤ v2_count.toInt ∧ v2_count.toInt ≤ 40 := i1
    exact ret _ _ _ _ (-1) (v2_count, f2_houses, f2_inks, f2_stuffs) dX11_dots_22 hpo hP hD hS
  have c4 := ci_ne c4
  refine lv_iload_n hx hb dX11_dots_11 rfl (lv_at hl 3 rfl) ?_
  refine lv_iconst (v := 1) hx hb dX11_dots_12 (by decide) ?_
  refine lv_bipush (v := 20) hx hb dX11_dots_13 (by decide) ?_
  refine kcm_i hA hAB hP hD hS [false, false, false, false, false, false, false, false, false, false, false, false, false, false, false] rfl (fun _ => rfl) (fun hPc hDc => va_runS (As := [.int p3, .int 1, .int 20]) (rest := []) ⟨hx, hb, hml, hown, hts⟩ (k_X11_within l D κ β H.size p3 1 20) (va_cwS 3 hts gX11_dots_X11_within rfl rfl rfl (by decide +kernel) ⟨Nat.le_of_ble_eq_true rfl, Nat.le_of_ble_eq_true rfl⟩) (pk_S hK hS hAB hPc hDc) rfl rfl hl.1 rfl (lv_room (Nat.le_of_ble_eq_true rfl)) dX11_dots_15 ⟨Nat.le_of_ble_eq_true rfl, Nat.le_of_ble_eq_true rfl⟩) (fun x5 u6 H locs hw hPD hS => ?_)
  have h7 : (x5.toInt = 1 ∧ (1 : Int32).toInt ≤ p3.toInt ∧ p3.toInt ≤ (20 : Int32).toInt) ∨ (x5.toInt = 0 ∧ (p3.toInt < (1 : Int32).toInt ∨ (20 : Int32).toInt < p3.toInt)) := hw
  obtain ⟨hP, hD⟩ : PD D A [O11 a11 a7 a5 a3 a2 a6 a4 a10 a9 a1 a0 a8 aN, O2 a2 r2 v2_count v2_madeIn v2_bound, (cI κ (r2 0) 40 f2_houses), (cI κ (r2 1) 40 f2_inks), (cI κ (r2 2) 40 f2_stuffs), O8 a8 r8, (cI κ (r8 0) 6 f8_sorts), (cI κ (r8 1) 6 f8_lengths), (cRJ κ (r8 3) 6 (fun i => some (g8 i))), (cJ κ (g8 0) 60 (F8 0)), (cJ κ (g8 1) 60 (F8 1)), (cJ κ (g8 2) 60 (F8 2)), (cJ κ (g8 3) 60 (F8 3)), (cJ κ (g8 4) 60 (F8 4)), (cJ κ (g8 5) 60 (F8 5))] H := hPD
  refine lv_if_ne (tgt := 23) hx hb dX11_dots_18 (by decide) (fun c8 => ?_) (fun c8 => ?_)
  · have c8 := ci_ne c8
    refine lv_aload_n hx hb dX11_dots_23 rfl (lv_at hl 0 rfl) ?_
    refine va_get (D := D) (ci := 11) (v := .ref a8) (C := RX11) (T := TX11) (N := 12) hx hb hts w1 hown hK.1 hP 0 rfl rfl 10 (by decide) w0 (fun _ h9 => h9) rfl dX11_dots_24 ?_
    refine lv_iload_n hx hb dX11_dots_27 rfl (lv_at hl 1 rfl) ?_
    refine kcm_i hA hAB hP hD hS [false, false, false, false, false, true, true, false, false, false, false, false, false, false, false] rfl (fun _ => rfl) (fun hPc hDc => va_runV (As := [.int p1]) (rest := []) ⟨hx, hb, hml, hown, hts⟩ (k_X8_isBare l D κ β a8 r8 f8_sorts H.size p1 (by omega)) (cwV 1 hts gX11_dots_X8_isBare rfl rfl rfl (by decide +kernel) ⟨Nat.le_of_ble_eq_true rfl, Nat.le_of_ble_eq_true rfl⟩) (pk_V hK hS hAB hPc hDc 0 (ci := 8) rfl rfl rfl) rfl rfl hl.1 rfl (lv_room (Nat.le_of_ble_eq_true rfl)) dX11_dots_28 ⟨Nat.le_of_ble_eq_true rfl, Nat.le_of_ble_eq_true rfl⟩) (fun x9 u10 H locs hw hPD hS => ?_)
    have h11 : x9.toInt = 0 ∨ x9.toInt = 1 := hw
    obtain ⟨hP, hD⟩ : PD D A [O11 a11 a7 a5 a3 a2 a6 a4 a10 a9 a1 a0 a8 aN, O2 a2 r2 v2_count v2_madeIn v2_bound, (cI κ (r2 0) 40 f2_houses), (cI κ (r2 1) 40 f2_inks), (cI κ (r2 2) 40 f2_stuffs), O8 a8 r8, (cI κ (r8 0) 6 f8_sorts), (cI κ (r8 1) 6 f8_lengths), (cRJ κ (r8 3) 6 (fun i => some (g8 i))), (cJ κ (g8 0) 60 (F8 0)), (cJ κ (g8 1) 60 (F8 1)), (cJ κ (g8 2) 60 (F8 2)), (cJ κ (g8 3) 60 (F8 3)), (cJ κ (g8 4) 60 (F8 4)), (cJ κ (g8 5) 60 (F8 5))] H := hPD
    refine lv_if_eq (tgt := 36) hx hb dX11_dots_31 (by decide) (fun c12 => ?_) (fun c12 => ?_)
    · have c12 := ci_eq c12
      refine lv_aload_n hx hb dX11_dots_36 rfl (lv_at hl 0 rfl) ?_
      refine va_get (D := D) (ci := 11) (v := .ref a8) (C := RX11) (T := TX11) (N := 12) hx hb hts w1 hown hK.1 hP 0 rfl rfl 10 (by decide) w0 (fun _ h9 => h9) rfl dX11_dots_37 ?_
      refine lv_iload_n hx hb dX11_dots_40 rfl (lv_at hl 1 rfl) ?_
      refine lv_iconst (v := 1) hx hb dX11_dots_41 (by decide) ?_
      refine kcm_i hA hAB hP hD hS [false, false, false, false, false, true, true, false, false, false, false, false, false, false, false] rfl (fun _ => rfl) (fun hPc hDc => va_runV (As := [.int p1, .int 1]) (rest := []) ⟨hx, hb, hml, hown, hts⟩ (k_X8_holdsSort l D κ β a8 r8 f8_sorts H.size p1 1 (by omega)) (cwV 2 hts gX11_dots_X8_holdsSort rfl rfl rfl (by decide +kernel) ⟨Nat.le_of_ble_eq_true rfl, Nat.le_of_ble_eq_true rfl⟩) (pk_V hK hS hAB hPc hDc 0 (ci := 8) rfl rfl rfl) rfl rfl hl.1 rfl (lv_room (Nat.le_of_ble_eq_true rfl)) dX11_dots_42 ⟨Nat.le_of_ble_eq_true rfl, Nat.le_of_ble_eq_true rfl⟩) (fun x13 u14 H locs hw hPD hS => ?_)
      have h15 : x13.toInt = 0 ∨ x13.toInt = 1 := hw
      obtain ⟨hP, hD⟩ : PD D A [O11 a11 a7 a5 a3 a2 a6 a4 a10 a9 a1 a0 a8 aN, O2 a2 r2 v2_count v2_madeIn v2_bound, (cI κ (r2 0) 40 f2_houses), (cI κ (r2 1) 40 f2_inks), (cI κ (r2 2) 40 f2_stuffs), O8 a8 r8, (cI κ (r8 0) 6 f8_sorts), (cI κ (r8 1) 6 f8_lengths), (cRJ κ (r8 3) 6 (fun i => some (g8 i))), (cJ κ (g8 0) 60 (F8 0)), (cJ κ (g8 1) 60 (F8 1)), (cJ κ (g8 2) 60 (F8 2)), (cJ κ (g8 3) 60 (F8 3)), (cJ κ (g8 4) 60 (F8 4)), (cJ κ (g8 5) 60 (F8 5))] H := hPD
      refine lv_if_ne (tgt := 51) hx hb dX11_dots_45 (by decide) (fun c16 => ?_) (fun c16 => ?_)
      · have c16 := ci_ne c16
        refine lv_iconst (v := 0) hx hb dX11_dots_51 (by decide) ?_
        refine lv_istore (lv' := [(4, .int 0), (0, .ref a11), (1, .int p1), (2, .int p2), (3, .int p3)]) hx hb dX11_dots_52 hl (by decide) rfl (fun ls hl => ?_)
        refine lv_iconst (v := 0) hx hb dX11_dots_54 (by decide) ?_
        refine lv_istore (lv' := [(5, .int 0), (4, .int 0), (0, .ref a11), (1, .int p1), (2, .int p2), (3, .int p3)]) hx hb dX11_dots_55 hl (by decide) rfl (fun ls hl => ?_)
        have lp57 : ∀ (n57 : Nat) (k17 : Int32) (k18 : Int32) (v19 : Int32) (g20 : Nat → Int32) (g21 : Nat → Int32) (g22 : Nat → Int32), (Rg 0 40 v19) → (0 ≤ k17.toInt) → (p3.toInt - k17.toInt).toNat < n57 → ∀ (H : Heap) (locs : List Loc), va_P D vwCl [O11 a11 a7 a5 a3 a2 a6 a4 a10 a9 a1 a0 a8 aN, O2 a2 r2 v19 v2_madeIn v2_bound, (cI κ (r2 0) 40 g20), (cI κ (r2 1) 40 g21), (cI κ (r2 2) 40 g22), O8 a8 r8, (cI κ (r8 0) 6 f8_sorts), (cI κ (r8 1) 6 f8_lengths), (cRJ κ (r8 3) 6 (fun i => some (g8 i))), (cJ κ (g8 0) 60 (F8 0)), (cJ κ (g8 1) 60 (F8 1)), (cJ κ (g8 2) 60 (F8 2)), (cJ κ (g8 3) 60 (F8 3)), (cJ κ (g8 4) 60 (F8 4)), (cJ κ (g8 5) 60 (F8 5))] H → va_D A [O11 a11 a7 a5 a3 a2 a6 a4 a10 a9 a1 a0 a8 aN, O2 a2 r2 v19 v2_madeIn v2_bound, (cI κ (r2 0) 40 g20), (cI κ (r2 1) 40 g21), (cI κ (r2 2) 40 g22), O8 a8 r8, (cI κ (r8 0) 6 f8_sorts), (cI κ (r8 1) 6 f8_lengths), (cRJ κ (r8 3) 6 (fun i => some (g8 i))), (cJ κ (g8 0) 60 (F8 0)), (cJ κ (g8 1) 60 (F8 1)), (cJ κ (g8 2) 60 (F8 2)), (cJ κ (g8 3) 60 (F8 3)), (cJ κ (g8 4) 60 (F8 4)), (cJ κ (g8 5) 60 (F8 5))] → va_S A s.heap H locs → ∀ ls : Array Slot, lv_has ls 6 [(5, .int k17), (4, .int k18), (0, .ref a11), (1, .int p1), (2, .int p2), (3, .int p3)] → W p l e ({ frames := 4, cells := 0, slots := 0, locals := 89 } : Room) s m args below meth c H locs 0 0 Q (F0 m 57 ls []) := by
          intro n57
          induction n57 with
          | zero =>
            intro k17 k18 v19 g20 g21 g22 h23 h24 m25
            exact absurd m25 (Nat.not_lt_zero _)
          | succ n57 ih57 =>
            intro k17 k18 v19 g20 g21 g22 h23 h24 m25 H locs hP hD hS ls hl
            refine lv_iload hx hb dX11_dots_57 (lv_at hl 0 rfl) ?_
            refine lv_iload_n hx hb dX11_dots_59 rfl (lv_at hl 5 rfl) ?_
            refine lv_icmp_ge (tgt := 89) hx hb dX11_dots_60 (by decide) (fun c26 => ?_) (fun c26 => ?_)
            · have c26 := ci_le c26
              refine lv_iload hx hb dX11_dots_89 (lv_at hl 1 rfl) ?_
              have hpo : 0 ≤ v19.toInt ∧ v19.toInt ≤ 40 := h23
              exact ret _ _ _ _ k18 (v19, g20, g21, g22) dX11_dots_91 hpo hP hD hS
            have c26 := ci_nle c26
            refine lv_aload_n hx hb dX11_dots_63 rfl (lv_at hl 2 rfl) ?_
            refine lv_iload_n hx hb dX11_dots_64 rfl (lv_at hl 3 rfl) ?_
            refine lv_iload_n hx hb dX11_dots_65 rfl (lv_at hl 4 rfl) ?_
            refine lv_iconst (v := 3) hx hb dX11_dots_66 (by decide) ?_
            refine lv_iload hx hb dX11_dots_67 (lv_at hl 0 rfl) ?_
            refine lv_imul hx hb dX11_dots_69 ?_
            refine lv_topi (fun x27 e28 => ?_)
            try have h29 : x27.toInt = 3 * k17.toInt := ci_mulL (n := 3) (by decide) e28 (by omega) (by omega)
            refine lv_iadd hx hb dX11_dots_70 ?_
            refine lv_topi (fun x30 e31 => ?_)
            try have h32 : x30.toInt = p2.toInt + x27.toInt := ci_add e31 (by omega) (by omega)
            refine kcm_i hA hAB hP hD hS [true, true, true, true, true, true, false, true, true, true, true, true, true, true, true] rfl (fun _ => rfl) (fun hPc hDc => va_runV (As := [.int p1, .int x30]) (rest := []) ⟨hx, hb, hml, hown, hts⟩ (k_X11_dotComes l D κ β a11 a7 a5 a3 a2 a6 a4 a10 a9 a1 a0 a8 aN r2 r8 v19 v2_madeIn v2_bound g20 g21 g22 f8_lengths g8 F8 H.size p1 x30 h23 hf8_lengths (by omega)) (cwV 2 hts gX11_dots_X11_dotComes rfl rfl rfl (by decide +kernel) ⟨Nat.le_of_ble_eq_true rfl, Nat.le_of_ble_eq_true rfl⟩) (pk_V hK hS hAB hPc hDc 0 (ci := 11) rfl rfl rfl) rfl rfl hl.1 rfl (lv_room (Nat.le_of_ble_eq_true rfl)) dX11_dots_71 ⟨Nat.le_of_ble_eq_true rfl, Nat.le_of_ble_eq_true rfl⟩) (fun x37 u38 H locs hw hPD hS => ?_)
            obtain ⟨x33, g34, g35, g36⟩ := u38
            obtain ⟨h39, h40⟩ : (Rg 0 40 x33) ∧ (x37.toInt = 0 ∨ x37.toInt = 1) := hw
            obtain ⟨hP, hD⟩ : PD D A [O11 a11 a7 a5 a3 a2 a6 a4 a10 a9 a1 a0 a8 aN, O2 a2 r2 x33 v2_madeIn v2_bound, (cI κ (r2 0) 40 g34), (cI κ (r2 1) 40 g35), (cI κ (r2 2) 40 g36), O8 a8 r8, (cI κ (r8 0) 6 f8_sorts), (cI κ (r8 1) 6 f8_lengths), (cRJ κ (r8 3) 6 (fun i => some (g8 i))), (cJ κ (g8 0) 60 (F8 0)), (cJ κ (g8 1) 60 (F8 1)), (cJ κ (g8 2) 60 (F8 2)), (cJ κ (g8 3) 60 (F8 3)), (cJ κ (g8 4) 60 (F8 4)), (cJ κ (g8 5) 60 (F8 5))] H := hPD
            refine lv_if_ne (tgt := 80) hx hb dX11_dots_74 (by decide) (fun c41 => ?_) (fun c41 => ?_)
            · have c41 := ci_ne c41
              obtain ⟨x42, e43⟩ : ∃ y : Int32, y = k18 + 1 := ⟨_, rfl⟩
              refine lv_iinc (v := x42) (lv' := [(4, .int x42), (5, .int k17), (0, .ref a11), (1, .int p1), (2, .int p2), (3, .int p3)]) hx hb dX11_dots_80 hl (k := 1) rfl (by rw [e43]; rfl) (by decide) rfl (fun ls hl => ?_)
              try have h44 : x42.toInt = k18.toInt + (1 : Int32).toInt := ci_add e43 (by omega) (by omega)
              obtain ⟨x45, e46⟩ : ∃ y : Int32, y = k17 + 1 := ⟨_, rfl⟩
              refine lv_iinc (v := x45) (lv' := [(5, .int x45), (4, .int x42), (0, .ref a11), (1, .int p1), (2, .int p2), (3, .int p3)]) hx hb dX11_dots_83 hl (k := 1) rfl (by rw [e46]; rfl) (by decide) rfl (fun ls hl => ?_)
              try have h47 : x45.toInt = k17.toInt + (1 : Int32).toInt := ci_add e46 (by omega) (by omega)
              refine lv_goto (tgt := 57) hx hb dX11_dots_86 (by decide) ?_
              exact ih57 x45 x42 x33 g34 g35 g36 h39 (by omega) (by omega) _ _ hP hD hS _ hl
            have c41 := ci_eq c41
            refine lv_goto (tgt := 89) hx hb dX11_dots_77 (by decide) ?_
            refine lv_iload hx hb dX11_dots_89 (lv_at hl 1 rfl) ?_
            have hpo : 0 ≤ x33.toInt ∧ x33.toInt ≤ 40 := h39
            exact ret _ _ _ _ k18 (x33, g34, g35, g36) dX11_dots_91 hpo hP hD hS
        exact lp57 ((p3.toInt - (0 : Int32).toInt).toNat + 1) 0 0 v2_count f2_houses f2_inks f2_stuffs i1 (by omega) (by omega) _ _ hP hD hS _ hl
      have c16 := ci_eq c16
      refine lv_bipush (v := (-12)) hx hb dX11_dots_48 (by decide) ?_
      have hpo : 0 ≤ v2_count.toInt ∧ v2_count.toInt ≤ 40 := i1
      exact ret _ _ _ _ (-12) (v2_count, f2_houses, f2_inks, f2_stuffs) dX11_dots_50 hpo hP hD hS
    have c12 := ci_ne c12
    refine lv_iconst (v := 0) hx hb dX11_dots_34 (by decide) ?_
    have hpo : 0 ≤ v2_count.toInt ∧ v2_count.toInt ≤ 40 := i1
    exact ret _ _ _ _ 0 (v2_count, f2_houses, f2_inks, f2_stuffs) dX11_dots_35 hpo hP hD hS
  have c8 := ci_eq c8
  refine lv_iconst (v := (-1)) hx hb dX11_dots_21 (by decide) ?_
  have hpo : 0 ≤ v2_count.toInt ∧ v2_count.toInt ≤ 40 := i1
  exact ret _ _ _ _ (-1) (v2_count, f2_houses, f2_inks, f2_stuffs) dX11_dots_22 hpo hP hD hS
