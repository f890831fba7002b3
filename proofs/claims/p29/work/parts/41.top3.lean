set_option maxHeartbeats 4000000 in
set_option maxRecDepth 100000 in
theorem k_X11_body (l : Launch) (D : va_G) (κ : Nat → ClassId) (β : Nat) (a11 : Nat) (a7 : Nat) (a5 : Nat) (a3 : Nat) (a2 : Nat) (a6 : Nat) (a4 : Nat) (a10 : Nat) (a9 : Nat) (a1 : Nat) (a0 : Nat) (a8 : Nat) (aN : Nat) (r0 : Nat → Nat) (v0_count : Int32) (v0_ran : Int32) (v0_actor : Int32) (f0_kinds : Nat → Int32) (sz : Nat) (p1 : Int32) (i1 : Rg 0 50 v0_count) (i2 : Rg 0 100000000 v0_ran) (i3 : Rg 0 49 v0_actor) (hf0_kinds : ∀ j : Nat, 0 ≤ (f0_kinds j).toInt ∧ (f0_kinds j).toInt ≤ 7) : Met l yX11_body wsX11_body ({ frames := 1, cells := 0, slots := 0, locals := 22 } : Room) (PcK D κ β [O11 a11 a7 a5 a3 a2 a6 a4 a10 a9 a1 a0 a8 aN, O0 a0 r0 v0_count v0_ran v0_actor, (cI κ (r0 0) 50 f0_kinds)] sz [.ref a11, .int p1]) (QiK D (fun (r : Int32) (u : Int32 × (Nat → Int32)) => (0 ≤ u.1.toInt ∧ u.1.toInt ≤ 50) ∧ (∀ j : Nat, 0 ≤ (u.2 j).toInt ∧ (u.2 j).toInt ≤ 7) ∧ ((¬ (0 ≤ p1.toInt ∧ p1.toInt ≤ 7) ∧ r.toInt = -1 ∧ u.1.toInt = v0_count.toInt) ∨ ((0 ≤ p1.toInt ∧ p1.toInt ≤ 7) ∧ v0_count.toInt = 50 ∧ r.toInt = -3 ∧ u.1.toInt = v0_count.toInt) ∨ ((0 ≤ p1.toInt ∧ p1.toInt ≤ 7) ∧ v0_count.toInt < 50 ∧ r.toInt = v0_count.toInt ∧ u.1.toInt = v0_count.toInt + 1))) (fun (u : Int32 × (Nat → Int32)) => [O11 a11 a7 a5 a3 a2 a6 a4 a10 a9 a1 a0 a8 aN, O0 a0 r0 u.1 v0_ran v0_actor, (cI κ (r0 0) 50 u.2)]) [O11 a11 a7 a5 a3 a2 a6 a4 a10 a9 a1 a0 a8 aN, O0 a0 r0 v0_count v0_ran v0_actor, (cI κ (r0 0) 50 f0_kinds)] sz) 0 0 (va_A [O11 a11 a7 a5 a3 a2 a6 a4 a10 a9 a1 a0 a8 aN, O0 a0 r0 v0_count v0_ran v0_actor, (cI κ (r0 0) 50 f0_kinds)] sz) := by
  refine ofK_i (cc := cX11_body) (maxL := 2) (own := RX11) (by decide) rfl rfl (Nat.le_of_ble_eq_true rfl) ?_
  intro p e s m args below meth c Q A ls hsz hx hb hml hts hown hK hA hAB hP hD hl ret
  have hS : va_S A s.heap s.heap [] := va_S.rf
  have hl : lv_has ls 2 [(0, .ref a11), (1, .int p1)] := hl
  have w0 := hts (.fieldLink RX11 75 "OlderSkin" "bodies" "LOlderSkin$Bodies;") (List.mem_of_getElem? (i := 1) rfl)
  have w1 := (fun w h => List.mem_cons_of_mem _ (List.mem_append_left _ (List.mem_append_right _ h)) : ∀ w ∈ u_ws RX11 TX11 12, w ∈ wsX11_body)
  have l0 : (0 : Int32).toInt = 0 := by decide
  have l1 : (7 : Int32).toInt = 7 := by decide
  have l2 : ((-1) : Int32).toInt = -1 := by decide
  have i1 : 0 ≤ v0_count.toInt ∧ v0_count.toInt ≤ 50 := i1
  refine lv_iload_n hx hb dX11_body_0 rfl (lv_at hl 1 rfl) ?_
  refine lv_iconst (v := 0) hx hb dX11_body_1 (by decide) ?_
  refine lv_bipush (v := 7) hx hb dX11_body_2 (by decide) ?_
  refine kcm_i hA hAB hP hD hS [false, false, false] rfl (fun _ => rfl) (fun hPc hDc => va_runS (As := [.int p1, .int 0, .int 7]) (rest := []) ⟨hx, hb, hml, hown, hts⟩ (k_X11_within l D κ β s.heap.size p1 0 7) (va_cwS 3 hts gX11_body_X11_within rfl rfl rfl (by decide +kernel) ⟨Nat.le_of_ble_eq_true rfl, Nat.le_of_ble_eq_true rfl⟩) (pk_S hK hS hAB hPc hDc) rfl rfl hl.1 rfl (lv_room (Nat.le_of_ble_eq_true rfl)) dX11_body_4 ⟨Nat.le_of_ble_eq_true rfl, Nat.le_of_ble_eq_true rfl⟩) (fun x1 u2 H locs hw hPD hS => ?_)
  have h3 : (x1.toInt = 1 ∧ (0 : Int32).toInt ≤ p1.toInt ∧ p1.toInt ≤ (7 : Int32).toInt) ∨ (x1.toInt = 0 ∧ (p1.toInt < (0 : Int32).toInt ∨ (7 : Int32).toInt < p1.toInt)) := hw
  obtain ⟨hP, hD⟩ : PD D A [O11 a11 a7 a5 a3 a2 a6 a4 a10 a9 a1 a0 a8 aN, O0 a0 r0 v0_count v0_ran v0_actor, (cI κ (r0 0) 50 f0_kinds)] H := hPD
  refine lv_if_ne (tgt := 12) hx hb dX11_body_7 (by decide) (fun c4 => ?_) (fun c4 => ?_)
  · have c4 := ci_ne c4
    refine lv_aload_n hx hb dX11_body_12 rfl (lv_at hl 0 rfl) ?_
    refine va_get (D := D) (ci := 11) (v := .ref a0) (C := RX11) (T := TX11) (N := 12) hx hb hts w1 hown hK.1 hP 0 rfl rfl 9 (by decide) w0 (fun _ h9 => h9) rfl dX11_body_13 ?_
    refine lv_iload_n hx hb dX11_body_16 rfl (lv_at hl 1 rfl) ?_
    refine kcm_i hA hAB hP hD hS [false, true, true] rfl (fun _ => rfl) (fun hPc hDc => va_runV (As := [.int p1]) (rest := []) ⟨hx, hb, hml, hown, hts⟩ (k_X0_add l D κ β a0 r0 v0_count v0_ran v0_actor f0_kinds H.size p1 i1 i2 i3 hf0_kinds (by omega)) (cwV 1 hts gX11_body_X0_add rfl rfl rfl (by decide +kernel) ⟨Nat.le_of_ble_eq_true rfl, Nat.le_of_ble_eq_true rfl⟩) (pk_V hK hS hAB hPc hDc 0 (ci := 0) rfl rfl rfl) rfl rfl hl.1 rfl (lv_room (Nat.le_of_ble_eq_true rfl)) dX11_body_17 ⟨Nat.le_of_ble_eq_true rfl, Nat.le_of_ble_eq_true rfl⟩) (fun x7 u8 H locs hw hPD hS => ?_)
    obtain ⟨x5, g6⟩ := u8
    obtain ⟨h9, h10, h11⟩ : (0 ≤ x5.toInt ∧ x5.toInt ≤ 50) ∧ (∀ j : Nat, 0 ≤ (g6 j).toInt ∧ (g6 j).toInt ≤ 7) ∧ ((v0_count.toInt = 50 ∧ x7.toInt = -3 ∧ x5.toInt = v0_count.toInt) ∨ (v0_count.toInt < 50 ∧ x7.toInt = v0_count.toInt ∧ x5.toInt = v0_count.toInt + 1)) := hw
    obtain ⟨hP, hD⟩ : PD D A [O11 a11 a7 a5 a3 a2 a6 a4 a10 a9 a1 a0 a8 aN, O0 a0 r0 x5 v0_ran v0_actor, (cI κ (r0 0) 50 g6)] H := hPD
    have hpo : (0 ≤ x5.toInt ∧ x5.toInt ≤ 50) ∧ (∀ j : Nat, 0 ≤ (g6 j).toInt ∧ (g6 j).toInt ≤ 7) ∧ ((¬ (0 ≤ p1.toInt ∧ p1.toInt ≤ 7) ∧ x7.toInt = -1 ∧ x5.toInt = v0_count.toInt) ∨ ((0 ≤ p1.toInt ∧ p1.toInt ≤ 7) ∧ v0_count.toInt = 50 ∧ x7.toInt = -3 ∧ x5.toInt = v0_count.toInt) ∨ ((0 ≤ p1.toInt ∧ p1.toInt ≤ 7) ∧ v0_count.toInt < 50 ∧ x7.toInt = v0_count.toInt ∧ x5.toInt = v0_count.toInt + 1)) := ⟨h9, h10, (by omega)⟩
    exact ret _ _ _ _ x7 (x5, g6) dX11_body_20 hpo hP hD hS
  have c4 := ci_eq c4
  refine lv_iconst (v := (-1)) hx hb dX11_body_10 (by decide) ?_
  have hpo : (0 ≤ v0_count.toInt ∧ v0_count.toInt ≤ 50) ∧ (∀ j : Nat, 0 ≤ (f0_kinds j).toInt ∧ (f0_kinds j).toInt ≤ 7) ∧ ((¬ (0 ≤ p1.toInt ∧ p1.toInt ≤ 7) ∧ ((-1) : Int32).toInt = -1 ∧ v0_count.toInt = v0_count.toInt) ∨ ((0 ≤ p1.toInt ∧ p1.toInt ≤ 7) ∧ v0_count.toInt = 50 ∧ ((-1) : Int32).toInt = -3 ∧ v0_count.toInt = v0_count.toInt) ∨ ((0 ≤ p1.toInt ∧ p1.toInt ≤ 7) ∧ v0_count.toInt < 50 ∧ ((-1) : Int32).toInt = v0_count.toInt ∧ v0_count.toInt = v0_count.toInt + 1)) := ⟨i1, hf0_kinds, (by omega)⟩
  exact ret _ _ _ _ (-1) (v0_count, f0_kinds) dX11_body_11 hpo hP hD hS
set_option maxHeartbeats 4000000 in
set_option maxRecDepth 100000 in
theorem k_X11_act (l : Launch) (D : va_G) (κ : Nat → ClassId) (β : Nat) (a11 : Nat) (a7 : Nat) (a5 : Nat) (a3 : Nat) (a2 : Nat) (a6 : Nat) (a4 : Nat) (a10 : Nat) (a9 : Nat) (a1 : Nat) (a0 : Nat) (a8 : Nat) (aN : Nat) (r0 : Nat → Nat) (v0_count : Int32) (v0_ran : Int32) (v0_actor : Int32) (f0_kinds : Nat → Int32) (f0_trace : Nat → Int32) (sz : Nat) (p1 : Int32) (p2 : Int32) (p3 : Int32) (i1 : Rg 0 50 v0_count) (i2 : Rg 0 100000000 v0_ran) (i3 : Rg 0 49 v0_actor) (hf0_kinds : ∀ j : Nat, 0 ≤ (f0_kinds j).toInt ∧ (f0_kinds j).toInt ≤ 7) : Met l yX11_act wsX11_act ({ frames := 78, cells := 0, slots := 0, locals := 1897 } : Room) (PcK D κ β [O11 a11 a7 a5 a3 a2 a6 a4 a10 a9 a1 a0 a8 aN, O0 a0 r0 v0_count v0_ran v0_actor, (cI κ (r0 0) 50 f0_kinds), (cI κ (r0 2) 24 f0_trace)] sz [.ref a11, .int p1, .int p2, .int p3]) (QiK D (fun (r : Int32) (u : Int32 × Int32 × (Nat → Int32)) => (0 ≤ u.1.toInt ∧ u.1.toInt ≤ 100000000) ∧ (0 ≤ u.2.1.toInt ∧ u.2.1.toInt ≤ 49)) (fun (u : Int32 × Int32 × (Nat → Int32)) => [O11 a11 a7 a5 a3 a2 a6 a4 a10 a9 a1 a0 a8 aN, O0 a0 r0 v0_count u.1 u.2.1, (cI κ (r0 0) 50 f0_kinds), (cI κ (r0 2) 24 u.2.2)]) [O11 a11 a7 a5 a3 a2 a6 a4 a10 a9 a1 a0 a8 aN, O0 a0 r0 v0_count v0_ran v0_actor, (cI κ (r0 0) 50 f0_kinds), (cI κ (r0 2) 24 f0_trace)] sz) 0 0 (va_A [O11 a11 a7 a5 a3 a2 a6 a4 a10 a9 a1 a0 a8 aN, O0 a0 r0 v0_count v0_ran v0_actor, (cI κ (r0 0) 50 f0_kinds), (cI κ (r0 2) 24 f0_trace)] sz) := by
  refine ofK_i (cc := cX11_act) (maxL := 4) (own := RX11) (by decide) rfl rfl (Nat.le_of_ble_eq_true rfl) ?_
  intro p e s m args below meth c Q A ls hsz hx hb hml hts hown hK hA hAB hP hD hl ret
  have hS : va_S A s.heap s.heap [] := va_S.rf
  have hl : lv_has ls 4 [(0, .ref a11), (1, .int p1), (2, .int p2), (3, .int p3)] := hl
  have w0 := hts (.fieldLink RX11 75 "OlderSkin" "bodies" "LOlderSkin$Bodies;") (List.mem_of_getElem? (i := 1) rfl)
  have w1 := (fun w h => List.mem_cons_of_mem _ (List.mem_append_left _ (List.mem_append_right _ h)) : ∀ w ∈ u_ws RX11 TX11 12, w ∈ wsX11_act)
  refine lv_aload_n hx hb dX11_act_0 rfl (lv_at hl 0 rfl) ?_
  refine va_get (D := D) (ci := 11) (v := .ref a0) (C := RX11) (T := TX11) (N := 12) hx hb hts w1 hown hK.1 hP 0 rfl rfl 9 (by decide) w0 (fun _ h9 => h9) rfl dX11_act_1 ?_
  refine lv_iload_n hx hb dX11_act_4 rfl (lv_at hl 1 rfl) ?_
  refine lv_iload_n hx hb dX11_act_5 rfl (lv_at hl 2 rfl) ?_
  refine lv_iload_n hx hb dX11_act_6 rfl (lv_at hl 3 rfl) ?_
  refine kcm_i hA hAB hP hD hS [false, true, true, true] rfl (fun _ => rfl) (fun hPc hDc => va_runV (As := [.int p1, .int p2, .int p3]) (rest := []) ⟨hx, hb, hml, hown, hts⟩ (k_X0_start l D κ β a0 r0 v0_count v0_ran v0_actor f0_kinds f0_trace s.heap.size p1 p2 p3 i1 i2 i3 hf0_kinds) (cwV 3 hts gX11_act_X0_start rfl rfl rfl (by decide +kernel) ⟨Nat.le_of_ble_eq_true rfl, Nat.le_of_ble_eq_true rfl⟩) (pk_V hK hS hAB hPc hDc 0 (ci := 0) rfl rfl rfl) rfl rfl hl.1 rfl (lv_room (Nat.le_of_ble_eq_true rfl)) dX11_act_7 ⟨Nat.le_of_ble_eq_true rfl, Nat.le_of_ble_eq_true rfl⟩) (fun x4 u5 H locs hw hPD hS => ?_)
  obtain ⟨x1, x2, g3⟩ := u5
  obtain ⟨h6, h7⟩ : (Rg 0 100000000 x1) ∧ (Rg 0 49 x2) := hw
  obtain ⟨hP, hD⟩ : PD D A [O11 a11 a7 a5 a3 a2 a6 a4 a10 a9 a1 a0 a8 aN, O0 a0 r0 v0_count x1 x2, (cI κ (r0 0) 50 f0_kinds), (cI κ (r0 2) 24 g3)] H := hPD
  have hpo : (0 ≤ x1.toInt ∧ x1.toInt ≤ 100000000) ∧ (0 ≤ x2.toInt ∧ x2.toInt ≤ 49) := ⟨h6, h7⟩
  exact ret _ _ _ _ x4 (x1, x2, g3) dX11_act_10 hpo hP hD hS
set_option maxHeartbeats 4000000 in
set_option maxRecDepth 100000 in
theorem k_X11_trace (l : Launch) (D : va_G) (κ : Nat → ClassId) (β : Nat) (a11 : Nat) (a7 : Nat) (a5 : Nat) (a3 : Nat) (a2 : Nat) (a6 : Nat) (a4 : Nat) (a10 : Nat) (a9 : Nat) (a1 : Nat) (a0 : Nat) (a8 : Nat) (aN : Nat) (r0 : Nat → Nat) (v0_count : Int32) (v0_ran : Int32) (v0_actor : Int32) (f0_trace : Nat → Int32) (sz : Nat) (p1 : Int32) (i1 : Rg 0 50 v0_count) (i2 : Rg 0 100000000 v0_ran) (i3 : Rg 0 49 v0_actor) : Met l yX11_trace wsX11_trace ({ frames := 2, cells := 0, slots := 0, locals := 41 } : Room) (PcK D κ β [O11 a11 a7 a5 a3 a2 a6 a4 a10 a9 a1 a0 a8 aN, O0 a0 r0 v0_count v0_ran v0_actor, (cI κ (r0 2) 24 f0_trace)] sz [.ref a11, .int p1]) (QiK D (fun (r : Int32) (u : Unit) => True) (fun (u : Unit) => [O11 a11 a7 a5 a3 a2 a6 a4 a10 a9 a1 a0 a8 aN, O0 a0 r0 v0_count v0_ran v0_actor, (cI κ (r0 2) 24 f0_trace)]) [O11 a11 a7 a5 a3 a2 a6 a4 a10 a9 a1 a0 a8 aN, O0 a0 r0 v0_count v0_ran v0_actor, (cI κ (r0 2) 24 f0_trace)] sz) 0 0 (va_A [O11 a11 a7 a5 a3 a2 a6 a4 a10 a9 a1 a0 a8 aN, O0 a0 r0 v0_count v0_ran v0_actor, (cI κ (r0 2) 24 f0_trace)] sz) := by
  refine ofK_i (cc := cX11_trace) (maxL := 2) (own := RX11) (by decide) rfl rfl (Nat.le_of_ble_eq_true rfl) ?_
  intro p e s m args below meth c Q A ls hsz hx hb hml hts hown hK hA hAB hP hD hl ret
  have hS : va_S A s.heap s.heap [] := va_S.rf
  have hl : lv_has ls 2 [(0, .ref a11), (1, .int p1)] := hl
  have w0 := hts (.fieldLink RX11 75 "OlderSkin" "bodies" "LOlderSkin$Bodies;") (List.mem_of_getElem? (i := 1) rfl)
  have w1 := (fun w h => List.mem_cons_of_mem _ (List.mem_append_left _ (List.mem_append_right _ h)) : ∀ w ∈ u_ws RX11 TX11 12, w ∈ wsX11_trace)
  have w2 := hts (.fieldLink RX11 411 "OlderSkin$Bodies" "trace" "[I") (List.mem_of_getElem? (i := 2) rfl)
  have w3 := (fun w h => List.mem_cons_of_mem _ (List.mem_append_right _ h) : ∀ w ∈ u_ws RX0 TX0 5, w ∈ wsX11_trace)
  have l0 : (0 : Int32).toInt = 0 := by decide
  have l1 : (1 : Int32).toInt = 1 := by decide
  have l2 : ((-1) : Int32).toInt = -1 := by decide
  refine lv_iload_n hx hb dX11_trace_0 rfl (lv_at hl 1 rfl) ?_
  refine lv_iconst (v := 0) hx hb dX11_trace_1 (by decide) ?_
  refine lv_aload_n hx hb dX11_trace_2 rfl (lv_at hl 0 rfl) ?_
  refine va_get (D := D) (ci := 11) (v := .ref a0) (C := RX11) (T := TX11) (N := 12) hx hb hts w1 hown hK.1 hP 0 rfl rfl 9 (by decide) w0 (fun _ h9 => h9) rfl dX11_trace_3 ?_
  refine kcm_i hA hAB hP hD hS [false, true, true] rfl (fun _ => rfl) (fun hPc hDc => va_runV (As := []) (rest := [.int 0, .int p1]) ⟨hx, hb, hml, hown, hts⟩ (k_X0_traced l D κ β a0 r0 v0_count v0_ran v0_actor f0_trace s.heap.size i1 i2 i3) (cwV 0 hts gX11_trace_X0_traced rfl rfl rfl (by decide +kernel) ⟨Nat.le_of_ble_eq_true rfl, Nat.le_of_ble_eq_true rfl⟩) (pk_V hK hS hAB hPc hDc 0 (ci := 0) rfl rfl rfl) rfl rfl hl.1 rfl (lv_room (Nat.le_of_ble_eq_true rfl)) dX11_trace_6 ⟨Nat.le_of_ble_eq_true rfl, Nat.le_of_ble_eq_true rfl⟩) (fun x1 u2 H locs hw hPD hS => ?_)
  have h3 : 0 ≤ x1.toInt ∧ x1.toInt ≤ 24 := hw
  obtain ⟨hP, hD⟩ : PD D A [O11 a11 a7 a5 a3 a2 a6 a4 a10 a9 a1 a0 a8 aN, O0 a0 r0 v0_count v0_ran v0_actor, (cI κ (r0 2) 24 f0_trace)] H := hPD
  refine lv_iconst (v := 1) hx hb dX11_trace_9 (by decide) ?_
  refine lv_isub hx hb dX11_trace_10 ?_
  refine lv_topi (fun x4 e5 => ?_)
  try have h6 : x4.toInt = x1.toInt - (1 : Int32).toInt := ci_sub e5 (by omega) (by omega)
  refine kcm_i hA hAB hP hD hS [false, false, false] rfl (fun _ => rfl) (fun hPc hDc => va_runS (As := [.int p1, .int 0, .int x4]) (rest := []) ⟨hx, hb, hml, hown, hts⟩ (k_X11_within l D κ β H.size p1 0 x4) (va_cwS 3 hts gX11_trace_X11_within rfl rfl rfl (by decide +kernel) ⟨Nat.le_of_ble_eq_true rfl, Nat.le_of_ble_eq_true rfl⟩) (pk_S hK hS hAB hPc hDc) rfl rfl hl.1 rfl (lv_room (Nat.le_of_ble_eq_true rfl)) dX11_trace_11 ⟨Nat.le_of_ble_eq_true rfl, Nat.le_of_ble_eq_true rfl⟩) (fun x7 u8 H locs hw hPD hS => ?_)
  have h9 : (x7.toInt = 1 ∧ (0 : Int32).toInt ≤ p1.toInt ∧ p1.toInt ≤ x4.toInt) ∨ (x7.toInt = 0 ∧ (p1.toInt < (0 : Int32).toInt ∨ x4.toInt < p1.toInt)) := hw
  obtain ⟨hP, hD⟩ : PD D A [O11 a11 a7 a5 a3 a2 a6 a4 a10 a9 a1 a0 a8 aN, O0 a0 r0 v0_count v0_ran v0_actor, (cI κ (r0 2) 24 f0_trace)] H := hPD
  refine lv_if_eq (tgt := 29) hx hb dX11_trace_14 (by decide) (fun c10 => ?_) (fun c10 => ?_)
  · have c10 := ci_eq c10
    refine lv_iconst (v := (-1)) hx hb dX11_trace_29 (by decide) ?_
    exact ret _ _ _ _ (-1) () dX11_trace_30 trivial hP hD hS
  have c10 := ci_ne c10
  refine lv_aload_n hx hb dX11_trace_17 rfl (lv_at hl 0 rfl) ?_
  refine va_get (D := D) (ci := 11) (v := .ref a0) (C := RX11) (T := TX11) (N := 12) hx hb hts w1 hown hK.1 hP 0 rfl rfl 9 (by decide) w0 (fun _ h9 => h9) rfl dX11_trace_18 ?_
  refine va_get (D := D) (ci := 0) (v := .ref (r0 2)) (C := RX0) (T := TX0) (N := 5) hx hb hts w3 hown hK.1 hP 1 rfl rfl 2 (by decide) w2 (fun _ h9 => h9) rfl dX11_trace_21 ?_
  refine lv_iload_n hx hb dX11_trace_24 rfl (lv_at hl 1 rfl) ?_
  refine va_iald hx hb hK.1 hP 2 1 rfl rfl (i := p1) (ix (by omega) (by omega)) dX11_trace_25 ?_
  refine lv_topi (fun x11 e12 => ?_)
  refine lv_goto (tgt := 30) hx hb dX11_trace_26 (by decide) ?_
  exact ret _ _ _ _ x11 () dX11_trace_30 trivial hP hD hS
