set_option maxHeartbeats 4000000 in
set_option maxRecDepth 100000 in
theorem k_X11_sheet (l : Launch) (D : va_G) (κ : Nat → ClassId) (β : Nat) (a11 : Nat) (a7 : Nat) (a5 : Nat) (a3 : Nat) (a2 : Nat) (a6 : Nat) (a4 : Nat) (a10 : Nat) (a9 : Nat) (a1 : Nat) (a0 : Nat) (a8 : Nat) (aN : Nat) (r7 : Nat → Nat) (v7_count : Int32) (v7_holes : Int32) (v7_worms : Int32) (f7_ages : Nat → Int32) (sz : Nat) (p1 : Int32) (i1 : Rg 0 8 v7_count) (i2 : Rg 0 40 v7_holes) (i3 : Rg 0 40 v7_worms) : Met l yX11_sheet wsX11_sheet ({ frames := 2, cells := 0, slots := 0, locals := 42 } : Room) (PcK D κ β [O11 a11 a7 a5 a3 a2 a6 a4 a10 a9 a1 a0 a8 aN, O7 a7 r7 v7_count v7_holes v7_worms, (cI κ (r7 0) 8 f7_ages)] sz [.ref a11, .int p1]) (QiK D (fun (r : Int32) (u : Int32 × (Nat → Int32)) => (0 ≤ u.1.toInt ∧ u.1.toInt ≤ 8) ∧ ((¬ (0 ≤ p1.toInt ∧ p1.toInt ≤ 2000) ∧ r.toInt = -1 ∧ u.1.toInt = v7_count.toInt) ∨ ((0 ≤ p1.toInt ∧ p1.toInt ≤ 2000) ∧ v7_count.toInt = 8 ∧ r.toInt = -3 ∧ u.1.toInt = v7_count.toInt) ∨ ((0 ≤ p1.toInt ∧ p1.toInt ≤ 2000) ∧ v7_count.toInt < 8 ∧ r.toInt = v7_count.toInt ∧ u.1.toInt = v7_count.toInt + 1))) (fun (u : Int32 × (Nat → Int32)) => [O11 a11 a7 a5 a3 a2 a6 a4 a10 a9 a1 a0 a8 aN, O7 a7 r7 u.1 v7_holes v7_worms, (cI κ (r7 0) 8 u.2)]) [O11 a11 a7 a5 a3 a2 a6 a4 a10 a9 a1 a0 a8 aN, O7 a7 r7 v7_count v7_holes v7_worms, (cI κ (r7 0) 8 f7_ages)] sz) 0 0 (va_A [O11 a11 a7 a5 a3 a2 a6 a4 a10 a9 a1 a0 a8 aN, O7 a7 r7 v7_count v7_holes v7_worms, (cI κ (r7 0) 8 f7_ages)] sz) := by
  refine ofK_i (cc := cX11_sheet) (maxL := 2) (own := RX11) (by decide) rfl rfl (Nat.le_of_ble_eq_true rfl) ?_
  intro p e s m args below meth c Q A ls hsz hx hb hml hts hown hK hA hAB hP hD hl ret
  have hS : va_S A s.heap s.heap [] := va_S.rf
  have hl : lv_has ls 2 [(0, .ref a11), (1, .int p1)] := hl
  have w0 := hts (.fieldLink RX11 10 "OlderSkin" "sheets" "LOlderSkin$Sheets;") (List.mem_of_getElem? (i := 1) rfl)
  have w1 := (fun w h => List.mem_cons_of_mem _ (List.mem_append_left _ (List.mem_append_right _ h)) : ∀ w ∈ u_ws RX11 TX11 12, w ∈ wsX11_sheet)
  have l0 : (0 : Int32).toInt = 0 := by decide
  have l1 : ((-1) : Int32).toInt = -1 := by decide
  have i1 : 0 ≤ v7_count.toInt ∧ v7_count.toInt ≤ 8 := i1
  refine lv_iload_n hx hb dX11_sheet_0 rfl (lv_at hl 1 rfl) ?_
  refine kcm_i hA hAB hP hD hS [false, false, false] rfl (fun _ => rfl) (fun hPc hDc => va_runS (As := [.int p1]) (rest := []) ⟨hx, hb, hml, hown, hts⟩ (k_X11_isYear l D κ β s.heap.size p1) (va_cwS 1 hts gX11_sheet_X11_isYear rfl rfl rfl (by decide +kernel) ⟨Nat.le_of_ble_eq_true rfl, Nat.le_of_ble_eq_true rfl⟩) (pk_S hK hS hAB hPc hDc) rfl rfl hl.1 rfl (lv_room (Nat.le_of_ble_eq_true rfl)) dX11_sheet_1 ⟨Nat.le_of_ble_eq_true rfl, Nat.le_of_ble_eq_true rfl⟩) (fun x1 u2 H locs hw hPD hS => ?_)
  have h3 : (x1.toInt = 1 ∧ 0 ≤ p1.toInt ∧ p1.toInt ≤ 2000) ∨ (x1.toInt = 0 ∧ (p1.toInt < 0 ∨ 2000 < p1.toInt)) := hw
  obtain ⟨hP, hD⟩ : PD D A [O11 a11 a7 a5 a3 a2 a6 a4 a10 a9 a1 a0 a8 aN, O7 a7 r7 v7_count v7_holes v7_worms, (cI κ (r7 0) 8 f7_ages)] H := hPD
  refine lv_if_ne (tgt := 9) hx hb dX11_sheet_4 (by decide) (fun c4 => ?_) (fun c4 => ?_)
  · have c4 := ci_ne c4
    refine lv_aload_n hx hb dX11_sheet_9 rfl (lv_at hl 0 rfl) ?_
    refine va_get (D := D) (ci := 11) (v := .ref a7) (C := RX11) (T := TX11) (N := 12) hx hb hts w1 hown hK.1 hP 0 rfl rfl 0 (by decide) w0 (fun _ h9 => h9) rfl dX11_sheet_10 ?_
    refine lv_iload_n hx hb dX11_sheet_13 rfl (lv_at hl 1 rfl) ?_
    refine kcm_i hA hAB hP hD hS [false, true, true] rfl (fun _ => rfl) (fun hPc hDc => va_runV (As := [.int p1]) (rest := []) ⟨hx, hb, hml, hown, hts⟩ (k_X7_add l D κ β a7 r7 v7_count v7_holes v7_worms f7_ages H.size p1 i1 i2 i3) (cwV 1 hts gX11_sheet_X7_add rfl rfl rfl (by decide +kernel) ⟨Nat.le_of_ble_eq_true rfl, Nat.le_of_ble_eq_true rfl⟩) (pk_V hK hS hAB hPc hDc 0 (ci := 7) rfl rfl rfl) rfl rfl hl.1 rfl (lv_room (Nat.le_of_ble_eq_true rfl)) dX11_sheet_14 ⟨Nat.le_of_ble_eq_true rfl, Nat.le_of_ble_eq_true rfl⟩) (fun x7 u8 H locs hw hPD hS => ?_)
    obtain ⟨x5, g6⟩ := u8
    obtain ⟨h9, h10⟩ : (0 ≤ x5.toInt ∧ x5.toInt ≤ 8) ∧ ((v7_count.toInt = 8 ∧ x7.toInt = -3 ∧ x5.toInt = v7_count.toInt) ∨ (v7_count.toInt < 8 ∧ x7.toInt = v7_count.toInt ∧ x5.toInt = v7_count.toInt + 1)) := hw
    obtain ⟨hP, hD⟩ : PD D A [O11 a11 a7 a5 a3 a2 a6 a4 a10 a9 a1 a0 a8 aN, O7 a7 r7 x5 v7_holes v7_worms, (cI κ (r7 0) 8 g6)] H := hPD
    have hpo : (0 ≤ x5.toInt ∧ x5.toInt ≤ 8) ∧ ((¬ (0 ≤ p1.toInt ∧ p1.toInt ≤ 2000) ∧ x7.toInt = -1 ∧ x5.toInt = v7_count.toInt) ∨ ((0 ≤ p1.toInt ∧ p1.toInt ≤ 2000) ∧ v7_count.toInt = 8 ∧ x7.toInt = -3 ∧ x5.toInt = v7_count.toInt) ∨ ((0 ≤ p1.toInt ∧ p1.toInt ≤ 2000) ∧ v7_count.toInt < 8 ∧ x7.toInt = v7_count.toInt ∧ x5.toInt = v7_count.toInt + 1)) := ⟨h9, (by omega)⟩
    exact ret _ _ _ _ x7 (x5, g6) dX11_sheet_17 hpo hP hD hS
  have c4 := ci_eq c4
  refine lv_iconst (v := (-1)) hx hb dX11_sheet_7 (by decide) ?_
  have hpo : (0 ≤ v7_count.toInt ∧ v7_count.toInt ≤ 8) ∧ ((¬ (0 ≤ p1.toInt ∧ p1.toInt ≤ 2000) ∧ ((-1) : Int32).toInt = -1 ∧ v7_count.toInt = v7_count.toInt) ∨ ((0 ≤ p1.toInt ∧ p1.toInt ≤ 2000) ∧ v7_count.toInt = 8 ∧ ((-1) : Int32).toInt = -3 ∧ v7_count.toInt = v7_count.toInt) ∨ ((0 ≤ p1.toInt ∧ p1.toInt ≤ 2000) ∧ v7_count.toInt < 8 ∧ ((-1) : Int32).toInt = v7_count.toInt ∧ v7_count.toInt = v7_count.toInt + 1)) := ⟨i1, (by omega)⟩
  exact ret _ _ _ _ (-1) (v7_count, f7_ages) dX11_sheet_8 hpo hP hD hS
set_option maxHeartbeats 4000000 in
set_option maxRecDepth 100000 in
theorem k_X11_hole (l : Launch) (D : va_G) (κ : Nat → ClassId) (β : Nat) (a11 : Nat) (a7 : Nat) (a5 : Nat) (a3 : Nat) (a2 : Nat) (a6 : Nat) (a4 : Nat) (a10 : Nat) (a9 : Nat) (a1 : Nat) (a0 : Nat) (a8 : Nat) (aN : Nat) (r7 : Nat → Nat) (v7_count : Int32) (v7_holes : Int32) (v7_worms : Int32) (f7_sheetOf : Nat → Int32) (f7_placeOf : Nat → Int32) (f7_byPlace : Nat → Int32) (sz : Nat) (p1 : Int32) (p2 : Int32) (i1 : Rg 0 8 v7_count) (i2 : Rg 0 40 v7_holes) (i3 : Rg 0 40 v7_worms) (hf7_sheetOf : ∀ j : Nat, 0 ≤ (f7_sheetOf j).toInt ∧ (f7_sheetOf j).toInt ≤ 7) (hf7_byPlace : ∀ j : Nat, 0 ≤ (f7_byPlace j).toInt ∧ (f7_byPlace j).toInt ≤ 39) : Met l yX11_hole wsX11_hole ({ frames := 2, cells := 0, slots := 0, locals := 43 } : Room) (PcK D κ β [O11 a11 a7 a5 a3 a2 a6 a4 a10 a9 a1 a0 a8 aN, O7 a7 r7 v7_count v7_holes v7_worms, (cI κ (r7 2) 40 f7_sheetOf), (cI κ (r7 3) 40 f7_placeOf), (cI κ (r7 4) 40 f7_byPlace)] sz [.ref a11, .int p1, .int p2]) (QiK D (fun (r : Int32) (u : Int32 × (Nat → Int32) × (Nat → Int32) × (Nat → Int32)) => (0 ≤ u.1.toInt ∧ u.1.toInt ≤ 40) ∧ (∀ j : Nat, 0 ≤ (u.2.1 j).toInt ∧ (u.2.1 j).toInt ≤ 7) ∧ (∀ j : Nat, 0 ≤ (u.2.2.2 j).toInt ∧ (u.2.2.2 j).toInt ≤ 39) ∧ ((¬ (0 ≤ p1.toInt ∧ p1.toInt < v7_count.toInt ∧ 0 ≤ p2.toInt ∧ p2.toInt ≤ 999) ∧ r.toInt = -1 ∧ u.1.toInt = v7_holes.toInt) ∨ ((0 ≤ p1.toInt ∧ p1.toInt < v7_count.toInt ∧ 0 ≤ p2.toInt ∧ p2.toInt ≤ 999) ∧ v7_holes.toInt = 40 ∧ r.toInt = -3 ∧ u.1.toInt = v7_holes.toInt) ∨ ((0 ≤ p1.toInt ∧ p1.toInt < v7_count.toInt ∧ 0 ≤ p2.toInt ∧ p2.toInt ≤ 999) ∧ v7_holes.toInt < 40 ∧ r.toInt = v7_holes.toInt ∧ u.1.toInt = v7_holes.toInt + 1))) (fun (u : Int32 × (Nat → Int32) × (Nat → Int32) × (Nat → Int32)) => [O11 a11 a7 a5 a3 a2 a6 a4 a10 a9 a1 a0 a8 aN, O7 a7 r7 v7_count u.1 v7_worms, (cI κ (r7 2) 40 u.2.1), (cI κ (r7 3) 40 u.2.2.1), (cI κ (r7 4) 40 u.2.2.2)]) [O11 a11 a7 a5 a3 a2 a6 a4 a10 a9 a1 a0 a8 aN, O7 a7 r7 v7_count v7_holes v7_worms, (cI κ (r7 2) 40 f7_sheetOf), (cI κ (r7 3) 40 f7_placeOf), (cI κ (r7 4) 40 f7_byPlace)] sz) 0 0 (va_A [O11 a11 a7 a5 a3 a2 a6 a4 a10 a9 a1 a0 a8 aN, O7 a7 r7 v7_count v7_holes v7_worms, (cI κ (r7 2) 40 f7_sheetOf), (cI κ (r7 3) 40 f7_placeOf), (cI κ (r7 4) 40 f7_byPlace)] sz) := by
  refine ofK_i (cc := cX11_hole) (maxL := 3) (own := RX11) (by decide) rfl rfl (Nat.le_of_ble_eq_true rfl) ?_
  intro p e s m args below meth c Q A ls hsz hx hb hml hts hown hK hA hAB hP hD hl ret
  have hS : va_S A s.heap s.heap [] := va_S.rf
  have hl : lv_has ls 3 [(0, .ref a11), (1, .int p1), (2, .int p2)] := hl
  have w0 := hts (.fieldLink RX11 10 "OlderSkin" "sheets" "LOlderSkin$Sheets;") (List.mem_of_getElem? (i := 1) rfl)
  have w1 := (fun w h => List.mem_cons_of_mem _ (List.mem_append_left _ (List.mem_append_right _ h)) : ∀ w ∈ u_ws RX11 TX11 12, w ∈ wsX11_hole)
  have l0 : (0 : Int32).toInt = 0 := by decide
  have l1 : ((-1) : Int32).toInt = -1 := by decide
  have l2 : (999 : Int32).toInt = 999 := by decide
  have i1 : 0 ≤ v7_count.toInt ∧ v7_count.toInt ≤ 8 := i1
  have i2 : 0 ≤ v7_holes.toInt ∧ v7_holes.toInt ≤ 40 := i2
  refine lv_aload_n hx hb dX11_hole_0 rfl (lv_at hl 0 rfl) ?_
  refine va_get (D := D) (ci := 11) (v := .ref a7) (C := RX11) (T := TX11) (N := 12) hx hb hts w1 hown hK.1 hP 0 rfl rfl 0 (by decide) w0 (fun _ h9 => h9) rfl dX11_hole_1 ?_
  refine lv_iload_n hx hb dX11_hole_4 rfl (lv_at hl 1 rfl) ?_
  refine kcm_i hA hAB hP hD hS [false, true, false, false, false] rfl (fun _ => rfl) (fun hPc hDc => va_runV (As := [.int p1]) (rest := []) ⟨hx, hb, hml, hown, hts⟩ (k_X7_isSheet l D κ β a7 r7 v7_count v7_holes v7_worms s.heap.size p1 i1 i2 i3) (cwV 1 hts gX11_hole_X7_isSheet rfl rfl rfl (by decide +kernel) ⟨Nat.le_of_ble_eq_true rfl, Nat.le_of_ble_eq_true rfl⟩) (pk_V hK hS hAB hPc hDc 0 (ci := 7) rfl rfl rfl) rfl rfl hl.1 rfl (lv_room (Nat.le_of_ble_eq_true rfl)) dX11_hole_5 ⟨Nat.le_of_ble_eq_true rfl, Nat.le_of_ble_eq_true rfl⟩) (fun x1 u2 H locs hw hPD hS => ?_)
  have h3 : (x1.toInt = 1 ∧ 0 ≤ p1.toInt ∧ p1.toInt < v7_count.toInt) ∨ (x1.toInt = 0 ∧ (p1.toInt < 0 ∨ v7_count.toInt ≤ p1.toInt)) := hw
  obtain ⟨hP, hD⟩ : PD D A [O11 a11 a7 a5 a3 a2 a6 a4 a10 a9 a1 a0 a8 aN, O7 a7 r7 v7_count v7_holes v7_worms, (cI κ (r7 2) 40 f7_sheetOf), (cI κ (r7 3) 40 f7_placeOf), (cI κ (r7 4) 40 f7_byPlace)] H := hPD
  refine lv_if_eq (tgt := 22) hx hb dX11_hole_8 (by decide) (fun c4 => ?_) (fun c4 => ?_)
  · have c4 := ci_eq c4
    refine lv_iconst (v := (-1)) hx hb dX11_hole_22 (by decide) ?_
    have hpo : (0 ≤ v7_holes.toInt ∧ v7_holes.toInt ≤ 40) ∧ (∀ j : Nat, 0 ≤ (f7_sheetOf j).toInt ∧ (f7_sheetOf j).toInt ≤ 7) ∧ (∀ j : Nat, 0 ≤ (f7_byPlace j).toInt ∧ (f7_byPlace j).toInt ≤ 39) ∧ ((¬ (0 ≤ p1.toInt ∧ p1.toInt < v7_count.toInt ∧ 0 ≤ p2.toInt ∧ p2.toInt ≤ 999) ∧ ((-1) : Int32).toInt = -1 ∧ v7_holes.toInt = v7_holes.toInt) ∨ ((0 ≤ p1.toInt ∧ p1.toInt < v7_count.toInt ∧ 0 ≤ p2.toInt ∧ p2.toInt ≤ 999) ∧ v7_holes.toInt = 40 ∧ ((-1) : Int32).toInt = -3 ∧ v7_holes.toInt = v7_holes.toInt) ∨ ((0 ≤ p1.toInt ∧ p1.toInt < v7_count.toInt ∧ 0 ≤ p2.toInt ∧ p2.toInt ≤ 999) ∧ v7_holes.toInt < 40 ∧ ((-1) : Int32).toInt = v7_holes.toInt ∧ v7_holes.toInt = v7_holes.toInt + 1)) := ⟨i2, hf7_sheetOf, hf7_byPlace, (by omega)⟩
    exact ret _ _ _ _ (-1) (v7_holes, f7_sheetOf, f7_placeOf, f7_byPlace) dX11_hole_23 hpo hP hD hS
  have c4 := ci_ne c4
  refine lv_iload_n hx hb dX11_hole_11 rfl (lv_at hl 2 rfl) ?_
  refine lv_iconst (v := 0) hx hb dX11_hole_12 (by decide) ?_
  refine lv_sipush (v := 999) hx hb dX11_hole_13 (by decide) ?_
  refine kcm_i hA hAB hP hD hS [false, false, false, false, false] rfl (fun _ => rfl) (fun hPc hDc => va_runS (As := [.int p2, .int 0, .int 999]) (rest := []) ⟨hx, hb, hml, hown, hts⟩ (k_X11_within l D κ β H.size p2 0 999) (va_cwS 3 hts gX11_hole_X11_within rfl rfl rfl (by decide +kernel) ⟨Nat.le_of_ble_eq_true rfl, Nat.le_of_ble_eq_true rfl⟩) (pk_S hK hS hAB hPc hDc) rfl rfl hl.1 rfl (lv_room (Nat.le_of_ble_eq_true rfl)) dX11_hole_16 ⟨Nat.le_of_ble_eq_true rfl, Nat.le_of_ble_eq_true rfl⟩) (fun x5 u6 H locs hw hPD hS => ?_)
  have h7 : (x5.toInt = 1 ∧ (0 : Int32).toInt ≤ p2.toInt ∧ p2.toInt ≤ (999 : Int32).toInt) ∨ (x5.toInt = 0 ∧ (p2.toInt < (0 : Int32).toInt ∨ (999 : Int32).toInt < p2.toInt)) := hw
  obtain ⟨hP, hD⟩ : PD D A [O11 a11 a7 a5 a3 a2 a6 a4 a10 a9 a1 a0 a8 aN, O7 a7 r7 v7_count v7_holes v7_worms, (cI κ (r7 2) 40 f7_sheetOf), (cI κ (r7 3) 40 f7_placeOf), (cI κ (r7 4) 40 f7_byPlace)] H := hPD
  refine lv_if_ne (tgt := 24) hx hb dX11_hole_19 (by decide) (fun c8 => ?_) (fun c8 => ?_)
  · have c8 := ci_ne c8
    refine lv_aload_n hx hb dX11_hole_24 rfl (lv_at hl 0 rfl) ?_
    refine va_get (D := D) (ci := 11) (v := .ref a7) (C := RX11) (T := TX11) (N := 12) hx hb hts w1 hown hK.1 hP 0 rfl rfl 0 (by decide) w0 (fun _ h9 => h9) rfl dX11_hole_25 ?_
    refine lv_iload_n hx hb dX11_hole_28 rfl (lv_at hl 1 rfl) ?_
    refine lv_iload_n hx hb dX11_hole_29 rfl (lv_at hl 2 rfl) ?_
    refine kcm_i hA hAB hP hD hS [false, true, true, true, true] rfl (fun _ => rfl) (fun hPc hDc => va_runV (As := [.int p1, .int p2]) (rest := []) ⟨hx, hb, hml, hown, hts⟩ (k_X7_addHole l D κ β a7 r7 v7_count v7_holes v7_worms f7_sheetOf f7_placeOf f7_byPlace H.size p1 p2 i1 i2 i3 hf7_sheetOf hf7_byPlace (by omega)) (cwV 2 hts gX11_hole_X7_addHole rfl rfl rfl (by decide +kernel) ⟨Nat.le_of_ble_eq_true rfl, Nat.le_of_ble_eq_true rfl⟩) (pk_V hK hS hAB hPc hDc 0 (ci := 7) rfl rfl rfl) rfl rfl hl.1 rfl (lv_room (Nat.le_of_ble_eq_true rfl)) dX11_hole_30 ⟨Nat.le_of_ble_eq_true rfl, Nat.le_of_ble_eq_true rfl⟩) (fun x13 u14 H locs hw hPD hS => ?_)
    obtain ⟨x9, g10, g11, g12⟩ := u14
    obtain ⟨h15, h16, h17, h18⟩ : (0 ≤ x9.toInt ∧ x9.toInt ≤ 40) ∧ (∀ j : Nat, 0 ≤ (g10 j).toInt ∧ (g10 j).toInt ≤ 7) ∧ (∀ j : Nat, 0 ≤ (g12 j).toInt ∧ (g12 j).toInt ≤ 39) ∧ ((v7_holes.toInt = 40 ∧ x13.toInt = -3 ∧ x9.toInt = v7_holes.toInt) ∨ (v7_holes.toInt < 40 ∧ x13.toInt = v7_holes.toInt ∧ x9.toInt = v7_holes.toInt + 1)) := hw
    obtain ⟨hP, hD⟩ : PD D A [O11 a11 a7 a5 a3 a2 a6 a4 a10 a9 a1 a0 a8 aN, O7 a7 r7 v7_count x9 v7_worms, (cI κ (r7 2) 40 g10), (cI κ (r7 3) 40 g11), (cI κ (r7 4) 40 g12)] H := hPD
    have hpo : (0 ≤ x9.toInt ∧ x9.toInt ≤ 40) ∧ (∀ j : Nat, 0 ≤ (g10 j).toInt ∧ (g10 j).toInt ≤ 7) ∧ (∀ j : Nat, 0 ≤ (g12 j).toInt ∧ (g12 j).toInt ≤ 39) ∧ ((¬ (0 ≤ p1.toInt ∧ p1.toInt < v7_count.toInt ∧ 0 ≤ p2.toInt ∧ p2.toInt ≤ 999) ∧ x13.toInt = -1 ∧ x9.toInt = v7_holes.toInt) ∨ ((0 ≤ p1.toInt ∧ p1.toInt < v7_count.toInt ∧ 0 ≤ p2.toInt ∧ p2.toInt ≤ 999) ∧ v7_holes.toInt = 40 ∧ x13.toInt = -3 ∧ x9.toInt = v7_holes.toInt) ∨ ((0 ≤ p1.toInt ∧ p1.toInt < v7_count.toInt ∧ 0 ≤ p2.toInt ∧ p2.toInt ≤ 999) ∧ v7_holes.toInt < 40 ∧ x13.toInt = v7_holes.toInt ∧ x9.toInt = v7_holes.toInt + 1)) := ⟨h15, h16, h17, (by omega)⟩
    exact ret _ _ _ _ x13 (x9, g10, g11, g12) dX11_hole_33 hpo hP hD hS
  have c8 := ci_eq c8
  refine lv_iconst (v := (-1)) hx hb dX11_hole_22 (by decide) ?_
  have hpo : (0 ≤ v7_holes.toInt ∧ v7_holes.toInt ≤ 40) ∧ (∀ j : Nat, 0 ≤ (f7_sheetOf j).toInt ∧ (f7_sheetOf j).toInt ≤ 7) ∧ (∀ j : Nat, 0 ≤ (f7_byPlace j).toInt ∧ (f7_byPlace j).toInt ≤ 39) ∧ ((¬ (0 ≤ p1.toInt ∧ p1.toInt < v7_count.toInt ∧ 0 ≤ p2.toInt ∧ p2.toInt ≤ 999) ∧ ((-1) : Int32).toInt = -1 ∧ v7_holes.toInt = v7_holes.toInt) ∨ ((0 ≤ p1.toInt ∧ p1.toInt < v7_count.toInt ∧ 0 ≤ p2.toInt ∧ p2.toInt ≤ 999) ∧ v7_holes.toInt = 40 ∧ ((-1) : Int32).toInt = -3 ∧ v7_holes.toInt = v7_holes.toInt) ∨ ((0 ≤ p1.toInt ∧ p1.toInt < v7_count.toInt ∧ 0 ≤ p2.toInt ∧ p2.toInt ≤ 999) ∧ v7_holes.toInt < 40 ∧ ((-1) : Int32).toInt = v7_holes.toInt ∧ v7_holes.toInt = v7_holes.toInt + 1)) := ⟨i2, hf7_sheetOf, hf7_byPlace, (by omega)⟩
  exact ret _ _ _ _ (-1) (v7_holes, f7_sheetOf, f7_placeOf, f7_byPlace) dX11_hole_23 hpo hP hD hS
set_option maxHeartbeats 4000000 in
set_option maxRecDepth 100000 in
theorem k_X11_worms (l : Launch) (D : va_G) (κ : Nat → ClassId) (β : Nat) (a11 : Nat) (a7 : Nat) (a5 : Nat) (a3 : Nat) (a2 : Nat) (a6 : Nat) (a4 : Nat) (a10 : Nat) (a9 : Nat) (a1 : Nat) (a0 : Nat) (a8 : Nat) (aN : Nat) (r7 : Nat → Nat) (v7_count : Int32) (v7_holes : Int32) (v7_worms : Int32) (f7_sheetOf : Nat → Int32) (f7_placeOf : Nat → Int32) (f7_byPlace : Nat → Int32) (f7_wormOf : Nat → Int32) (f7_wormSheets : Nat → Int32) (sz : Nat) (p1 : Int32) (p2 : Int32) (i1 : Rg 0 8 v7_count) (i2 : Rg 0 40 v7_holes) (i3 : Rg 0 40 v7_worms) (hf7_sheetOf : ∀ j : Nat, 0 ≤ (f7_sheetOf j).toInt ∧ (f7_sheetOf j).toInt ≤ 7) (hf7_byPlace : ∀ j : Nat, 0 ≤ (f7_byPlace j).toInt ∧ (f7_byPlace j).toInt ≤ 39) (hf7_wormOf : ∀ j : Nat, 0 ≤ (f7_wormOf j).toInt ∧ (f7_wormOf j).toInt ≤ 39) : Met l yX11_worms wsX11_worms ({ frames := 2, cells := 0, slots := 0, locals := 42 } : Room) (PcK D κ β [O11 a11 a7 a5 a3 a2 a6 a4 a10 a9 a1 a0 a8 aN, O7 a7 r7 v7_count v7_holes v7_worms, (cI κ (r7 2) 40 f7_sheetOf), (cI κ (r7 3) 40 f7_placeOf), (cI κ (r7 4) 40 f7_byPlace), (cI κ (r7 6) 40 f7_wormOf), (cI κ (r7 7) 40 f7_wormSheets)] sz [.ref a11, .int p1, .int p2]) (QiK D (fun (r : Int32) (u : Int32 × (Nat → Int32) × (Nat → Int32)) => (0 ≤ u.1.toInt ∧ u.1.toInt ≤ 40) ∧ (∀ j : Nat, 0 ≤ (u.2.1 j).toInt ∧ (u.2.1 j).toInt ≤ 39)) (fun (u : Int32 × (Nat → Int32) × (Nat → Int32)) => [O11 a11 a7 a5 a3 a2 a6 a4 a10 a9 a1 a0 a8 aN, O7 a7 r7 v7_count v7_holes u.1, (cI κ (r7 2) 40 f7_sheetOf), (cI κ (r7 3) 40 f7_placeOf), (cI κ (r7 4) 40 f7_byPlace), (cI κ (r7 6) 40 u.2.1), (cI κ (r7 7) 40 u.2.2)]) [O11 a11 a7 a5 a3 a2 a6 a4 a10 a9 a1 a0 a8 aN, O7 a7 r7 v7_count v7_holes v7_worms, (cI κ (r7 2) 40 f7_sheetOf), (cI κ (r7 3) 40 f7_placeOf), (cI κ (r7 4) 40 f7_byPlace), (cI κ (r7 6) 40 f7_wormOf), (cI κ (r7 7) 40 f7_wormSheets)] sz) 0 0 (va_A [O11 a11 a7 a5 a3 a2 a6 a4 a10 a9 a1 a0 a8 aN, O7 a7 r7 v7_count v7_holes v7_worms, (cI κ (r7 2) 40 f7_sheetOf), (cI κ (r7 3) 40 f7_placeOf), (cI κ (r7 4) 40 f7_byPlace), (cI κ (r7 6) 40 f7_wormOf), (cI κ (r7 7) 40 f7_wormSheets)] sz) := by
  refine ofK_i (cc := cX11_worms) (maxL := 3) (own := RX11) (by decide) rfl rfl (Nat.le_of_ble_eq_true rfl) ?_
  intro p e s m args below meth c Q A ls hsz hx hb hml hts hown hK hA hAB hP hD hl ret
  have hS : va_S A s.heap s.heap [] := va_S.rf
  have hl : lv_has ls 3 [(0, .ref a11), (1, .int p1), (2, .int p2)] := hl
  have w0 := hts (.fieldLink RX11 10 "OlderSkin" "sheets" "LOlderSkin$Sheets;") (List.mem_of_getElem? (i := 1) rfl)
  have w1 := (fun w h => List.mem_cons_of_mem _ (List.mem_append_left _ (List.mem_append_right _ h)) : ∀ w ∈ u_ws RX11 TX11 12, w ∈ wsX11_worms)
  have w2 := hts (.fieldLink RX11 131 "OlderSkin$Sheets" "worms" "I") (List.mem_of_getElem? (i := 2) rfl)
  have w3 := (fun w h => List.mem_cons_of_mem _ (List.mem_append_right _ h) : ∀ w ∈ u_ws RX7 TX7 9, w ∈ wsX11_worms)
  have w4 := hts (.fieldLink RX11 135 "OlderSkin$Sheets" "wormSheets" "[I") (List.mem_of_getElem? (i := 3) rfl)
  have l0 : (0 : Int32).toInt = 0 := by decide
  have l1 : ((-1) : Int32).toInt = -1 := by decide
  have i3 : 0 ≤ v7_worms.toInt ∧ v7_worms.toInt ≤ 40 := i3
  refine lv_iload_n hx hb dX11_worms_0 rfl (lv_at hl 1 rfl) ?_
  refine kcm_i hA hAB hP hD hS [false, false, false, false, false, false, false] rfl (fun _ => rfl) (fun hPc hDc => va_runS (As := [.int p1]) (rest := []) ⟨hx, hb, hml, hown, hts⟩ (k_X11_isSlack l D κ β s.heap.size p1) (va_cwS 1 hts gX11_worms_X11_isSlack rfl rfl rfl (by decide +kernel) ⟨Nat.le_of_ble_eq_true rfl, Nat.le_of_ble_eq_true rfl⟩) (pk_S hK hS hAB hPc hDc) rfl rfl hl.1 rfl (lv_room (Nat.le_of_ble_eq_true rfl)) dX11_worms_1 ⟨Nat.le_of_ble_eq_true rfl, Nat.le_of_ble_eq_true rfl⟩) (fun x1 u2 H locs hw hPD hS => ?_)
  have h3 : (x1.toInt = 1 ∧ 0 ≤ p1.toInt ∧ p1.toInt ≤ 99) ∨ (x1.toInt = 0 ∧ (p1.toInt < 0 ∨ 99 < p1.toInt)) := hw
  obtain ⟨hP, hD⟩ : PD D A [O11 a11 a7 a5 a3 a2 a6 a4 a10 a9 a1 a0 a8 aN, O7 a7 r7 v7_count v7_holes v7_worms, (cI κ (r7 2) 40 f7_sheetOf), (cI κ (r7 3) 40 f7_placeOf), (cI κ (r7 4) 40 f7_byPlace), (cI κ (r7 6) 40 f7_wormOf), (cI κ (r7 7) 40 f7_wormSheets)] H := hPD
  refine lv_if_eq (tgt := 12) hx hb dX11_worms_4 (by decide) (fun c4 => ?_) (fun c4 => ?_)
  · have c4 := ci_eq c4
    refine lv_iconst (v := (-1)) hx hb dX11_worms_12 (by decide) ?_
    have hpo : (0 ≤ v7_worms.toInt ∧ v7_worms.toInt ≤ 40) ∧ (∀ j : Nat, 0 ≤ (f7_wormOf j).toInt ∧ (f7_wormOf j).toInt ≤ 39) := ⟨i3, hf7_wormOf⟩
    exact ret _ _ _ _ (-1) (v7_worms, f7_wormOf, f7_wormSheets) dX11_worms_13 hpo hP hD hS
  have c4 := ci_ne c4
  refine lv_iload_n hx hb dX11_worms_7 rfl (lv_at hl 2 rfl) ?_
  refine lv_iconst (v := (-1)) hx hb dX11_worms_8 (by decide) ?_
  refine lv_icmp_ge (tgt := 14) hx hb dX11_worms_9 (by decide) (fun c5 => ?_) (fun c5 => ?_)
  · have c5 := ci_le c5
    refine lv_aload_n hx hb dX11_worms_14 rfl (lv_at hl 0 rfl) ?_
    refine va_get (D := D) (ci := 11) (v := .ref a7) (C := RX11) (T := TX11) (N := 12) hx hb hts w1 hown hK.1 hP 0 rfl rfl 0 (by decide) w0 (fun _ h9 => h9) rfl dX11_worms_15 ?_
    refine lv_iload_n hx hb dX11_worms_18 rfl (lv_at hl 1 rfl) ?_
    refine lv_aload_n hx hb dX11_worms_19 rfl (lv_at hl 0 rfl) ?_
    refine va_get (D := D) (ci := 11) (v := .ref a7) (C := RX11) (T := TX11) (N := 12) hx hb hts w1 hown hK.1 hP 0 rfl rfl 0 (by decide) w0 (fun _ h9 => h9) rfl dX11_worms_20 ?_
    refine kcm_i hA hAB hP hD hS [false, true, false, false, false, false, false] rfl (fun _ => rfl) (fun hPc hDc => va_runV (As := []) (rest := [.int p1, .ref a7]) ⟨hx, hb, hml, hown, hts⟩ (k_X7_all l D κ β a7 r7 v7_count v7_holes v7_worms H.size i1 i2 i3) (cwV 0 hts gX11_worms_X7_all rfl rfl rfl (by decide +kernel) ⟨Nat.le_of_ble_eq_true rfl, Nat.le_of_ble_eq_true rfl⟩) (pk_V hK hS hAB hPc hDc 0 (ci := 7) rfl rfl rfl) rfl rfl hl.1 rfl (lv_room (Nat.le_of_ble_eq_true rfl)) dX11_worms_23 ⟨Nat.le_of_ble_eq_true rfl, Nat.le_of_ble_eq_true rfl⟩) (fun x6 u7 H locs hw hPD hS => ?_)
    have h8 : 0 ≤ x6.toInt ∧ x6.toInt ≤ 255 := hw
    obtain ⟨hP, hD⟩ : PD D A [O11 a11 a7 a5 a3 a2 a6 a4 a10 a9 a1 a0 a8 aN, O7 a7 r7 v7_count v7_holes v7_worms, (cI κ (r7 2) 40 f7_sheetOf), (cI κ (r7 3) 40 f7_placeOf), (cI κ (r7 4) 40 f7_byPlace), (cI κ (r7 6) 40 f7_wormOf), (cI κ (r7 7) 40 f7_wormSheets)] H := hPD
    refine kcm_v hA hAB hP hD hS [false, true, true, true, true, true, true] rfl (fun _ => rfl) (fun hPc hDc => va_runV (As := [.int p1, .int x6]) (rest := []) ⟨hx, hb, hml, hown, hts⟩ (k_X7_findWorms l D κ β a7 r7 v7_count v7_holes v7_worms f7_sheetOf f7_placeOf f7_byPlace f7_wormOf f7_wormSheets H.size p1 x6 i1 i2 i3 hf7_sheetOf hf7_byPlace hf7_wormOf) (cwV 2 hts gX11_worms_X7_findWorms rfl rfl rfl (by decide +kernel) ⟨Nat.le_of_ble_eq_true rfl, Nat.le_of_ble_eq_true rfl⟩) (pk_V hK hS hAB hPc hDc 0 (ci := 7) rfl rfl rfl) rfl rfl hl.1 rfl (lv_room (Nat.le_of_ble_eq_true rfl)) dX11_worms_26 ⟨Nat.le_of_ble_eq_true rfl, Nat.le_of_ble_eq_true rfl⟩) (fun u12 H locs hw hPD hS => ?_)
    obtain ⟨x9, g10, g11⟩ := u12
    obtain ⟨h13, h14⟩ : (0 ≤ x9.toInt ∧ x9.toInt ≤ 40) ∧ (∀ j : Nat, 0 ≤ (g10 j).toInt ∧ (g10 j).toInt ≤ 39) := hw
    obtain ⟨hP, hD⟩ : PD D A [O11 a11 a7 a5 a3 a2 a6 a4 a10 a9 a1 a0 a8 aN, O7 a7 r7 v7_count v7_holes x9, (cI κ (r7 2) 40 f7_sheetOf), (cI κ (r7 3) 40 f7_placeOf), (cI κ (r7 4) 40 f7_byPlace), (cI κ (r7 6) 40 g10), (cI κ (r7 7) 40 g11)] H := hPD
    refine lv_iload_n hx hb dX11_worms_29 rfl (lv_at hl 2 rfl) ?_
    refine lv_iconst (v := (-1)) hx hb dX11_worms_30 (by decide) ?_
    refine lv_icmp_ne (tgt := 42) hx hb dX11_worms_31 (by decide) (fun c15 => ?_) (fun c15 => ?_)
    · have c15 := ci_ne c15
      refine lv_iload_n hx hb dX11_worms_42 rfl (lv_at hl 2 rfl) ?_
      refine lv_aload_n hx hb dX11_worms_43 rfl (lv_at hl 0 rfl) ?_
      refine va_get (D := D) (ci := 11) (v := .ref a7) (C := RX11) (T := TX11) (N := 12) hx hb hts w1 hown hK.1 hP 0 rfl rfl 0 (by decide) w0 (fun _ h9 => h9) rfl dX11_worms_44 ?_
      refine va_get (D := D) (ci := 7) (v := .int x9) (C := RX7) (T := TX7) (N := 9) hx hb hts w3 hown hK.1 hP 1 rfl rfl 8 (by decide) w2 (fun _ h9 => h9) rfl dX11_worms_47 ?_
      refine lv_icmp_ge (tgt := 65) hx hb dX11_worms_50 (by decide) (fun c16 => ?_) (fun c16 => ?_)
      · have c16 := ci_le c16
        refine lv_iconst (v := (-1)) hx hb dX11_worms_65 (by decide) ?_
        have hpo : (0 ≤ x9.toInt ∧ x9.toInt ≤ 40) ∧ (∀ j : Nat, 0 ≤ (g10 j).toInt ∧ (g10 j).toInt ≤ 39) := ⟨h13, h14⟩
        exact ret _ _ _ _ (-1) (x9, g10, g11) dX11_worms_66 hpo hP hD hS
      have c16 := ci_nle c16
      refine lv_aload_n hx hb dX11_worms_53 rfl (lv_at hl 0 rfl) ?_
      refine va_get (D := D) (ci := 11) (v := .ref a7) (C := RX11) (T := TX11) (N := 12) hx hb hts w1 hown hK.1 hP 0 rfl rfl 0 (by decide) w0 (fun _ h9 => h9) rfl dX11_worms_54 ?_
      refine va_get (D := D) (ci := 7) (v := .ref (r7 7)) (C := RX7) (T := TX7) (N := 9) hx hb hts w3 hown hK.1 hP 1 rfl rfl 7 (by decide) w4 (fun _ h9 => h9) rfl dX11_worms_57 ?_
      refine lv_iload_n hx hb dX11_worms_60 rfl (lv_at hl 2 rfl) ?_
      refine va_iald hx hb hK.1 hP 6 1 rfl rfl (i := p2) (ix (by omega) (by omega)) dX11_worms_61 ?_
      refine lv_topi (fun x17 e18 => ?_)
      refine lv_goto (tgt := 66) hx hb dX11_worms_62 (by decide) ?_
      have hpo : (0 ≤ x9.toInt ∧ x9.toInt ≤ 40) ∧ (∀ j : Nat, 0 ≤ (g10 j).toInt ∧ (g10 j).toInt ≤ 39) := ⟨h13, h14⟩
      exact ret _ _ _ _ x17 (x9, g10, g11) dX11_worms_66 hpo hP hD hS
    have c15 := ci_eq c15
    refine lv_aload_n hx hb dX11_worms_34 rfl (lv_at hl 0 rfl) ?_
    refine va_get (D := D) (ci := 11) (v := .ref a7) (C := RX11) (T := TX11) (N := 12) hx hb hts w1 hown hK.1 hP 0 rfl rfl 0 (by decide) w0 (fun _ h9 => h9) rfl dX11_worms_35 ?_
    refine va_get (D := D) (ci := 7) (v := .int x9) (C := RX7) (T := TX7) (N := 9) hx hb hts w3 hown hK.1 hP 1 rfl rfl 8 (by decide) w2 (fun _ h9 => h9) rfl dX11_worms_38 ?_
    have hpo : (0 ≤ x9.toInt ∧ x9.toInt ≤ 40) ∧ (∀ j : Nat, 0 ≤ (g10 j).toInt ∧ (g10 j).toInt ≤ 39) := ⟨h13, h14⟩
    exact ret _ _ _ _ x9 (x9, g10, g11) dX11_worms_41 hpo hP hD hS
  have c5 := ci_nle c5
  refine lv_iconst (v := (-1)) hx hb dX11_worms_12 (by decide) ?_
  have hpo : (0 ≤ v7_worms.toInt ∧ v7_worms.toInt ≤ 40) ∧ (∀ j : Nat, 0 ≤ (f7_wormOf j).toInt ∧ (f7_wormOf j).toInt ≤ 39) := ⟨i3, hf7_wormOf⟩
  exact ret _ _ _ _ (-1) (v7_worms, f7_wormOf, f7_wormSheets) dX11_worms_13 hpo hP hD hS
set_option maxHeartbeats 4000000 in
set_option maxRecDepth 100000 in
theorem k_X11_led (l : Launch) (D : va_G) (κ : Nat → ClassId) (β : Nat) (a11 : Nat) (a7 : Nat) (a5 : Nat) (a3 : Nat) (a2 : Nat) (a6 : Nat) (a4 : Nat) (a10 : Nat) (a9 : Nat) (a1 : Nat) (a0 : Nat) (a8 : Nat) (aN : Nat) (r7 : Nat → Nat) (v7_count : Int32) (v7_holes : Int32) (v7_worms : Int32) (f7_sheetOf : Nat → Int32) (f7_placeOf : Nat → Int32) (f7_byPlace : Nat → Int32) (f7_wormOf : Nat → Int32) (f7_wormSheets : Nat → Int32) (sz : Nat) (p1 : Int32) (p2 : Int32) (i1 : Rg 0 8 v7_count) (i2 : Rg 0 40 v7_holes) (i3 : Rg 0 40 v7_worms) (hf7_sheetOf : ∀ j : Nat, 0 ≤ (f7_sheetOf j).toInt ∧ (f7_sheetOf j).toInt ≤ 7) (hf7_byPlace : ∀ j : Nat, 0 ≤ (f7_byPlace j).toInt ∧ (f7_byPlace j).toInt ≤ 39) (hf7_wormOf : ∀ j : Nat, 0 ≤ (f7_wormOf j).toInt ∧ (f7_wormOf j).toInt ≤ 39) : Met l yX11_led wsX11_led ({ frames := 2, cells := 0, slots := 0, locals := 43 } : Room) (PcK D κ β [O11 a11 a7 a5 a3 a2 a6 a4 a10 a9 a1 a0 a8 aN, O7 a7 r7 v7_count v7_holes v7_worms, (cI κ (r7 2) 40 f7_sheetOf), (cI κ (r7 3) 40 f7_placeOf), (cI κ (r7 4) 40 f7_byPlace), (cI κ (r7 6) 40 f7_wormOf), (cI κ (r7 7) 40 f7_wormSheets)] sz [.ref a11, .int p1, .int p2]) (QiK D (fun (r : Int32) (u : Int32 × (Nat → Int32) × (Nat → Int32)) => (0 ≤ u.1.toInt ∧ u.1.toInt ≤ 40) ∧ (∀ j : Nat, 0 ≤ (u.2.1 j).toInt ∧ (u.2.1 j).toInt ≤ 39)) (fun (u : Int32 × (Nat → Int32) × (Nat → Int32)) => [O11 a11 a7 a5 a3 a2 a6 a4 a10 a9 a1 a0 a8 aN, O7 a7 r7 v7_count v7_holes u.1, (cI κ (r7 2) 40 f7_sheetOf), (cI κ (r7 3) 40 f7_placeOf), (cI κ (r7 4) 40 f7_byPlace), (cI κ (r7 6) 40 u.2.1), (cI κ (r7 7) 40 u.2.2)]) [O11 a11 a7 a5 a3 a2 a6 a4 a10 a9 a1 a0 a8 aN, O7 a7 r7 v7_count v7_holes v7_worms, (cI κ (r7 2) 40 f7_sheetOf), (cI κ (r7 3) 40 f7_placeOf), (cI κ (r7 4) 40 f7_byPlace), (cI κ (r7 6) 40 f7_wormOf), (cI κ (r7 7) 40 f7_wormSheets)] sz) 0 0 (va_A [O11 a11 a7 a5 a3 a2 a6 a4 a10 a9 a1 a0 a8 aN, O7 a7 r7 v7_count v7_holes v7_worms, (cI κ (r7 2) 40 f7_sheetOf), (cI κ (r7 3) 40 f7_placeOf), (cI κ (r7 4) 40 f7_byPlace), (cI κ (r7 6) 40 f7_wormOf), (cI κ (r7 7) 40 f7_wormSheets)] sz) := by
  refine ofK_i (cc := cX11_led) (maxL := 3) (own := RX11) (by decide) rfl rfl (Nat.le_of_ble_eq_true rfl) ?_
  intro p e s m args below meth c Q A ls hsz hx hb hml hts hown hK hA hAB hP hD hl ret
  have hS : va_S A s.heap s.heap [] := va_S.rf
  have hl : lv_has ls 3 [(0, .ref a11), (1, .int p1), (2, .int p2)] := hl
  have w0 := hts (.fieldLink RX11 10 "OlderSkin" "sheets" "LOlderSkin$Sheets;") (List.mem_of_getElem? (i := 1) rfl)
  have w1 := (fun w h => List.mem_cons_of_mem _ (List.mem_append_left _ (List.mem_append_right _ h)) : ∀ w ∈ u_ws RX11 TX11 12, w ∈ wsX11_led)
  have w2 := hts (.fieldLink RX11 141 "OlderSkin$Sheets" "wormOf" "[I") (List.mem_of_getElem? (i := 2) rfl)
  have w3 := (fun w h => List.mem_cons_of_mem _ (List.mem_append_right _ h) : ∀ w ∈ u_ws RX7 TX7 9, w ∈ wsX11_led)
  have l0 : (0 : Int32).toInt = 0 := by decide
  have l1 : ((-1) : Int32).toInt = -1 := by decide
  have i2 : 0 ≤ v7_holes.toInt ∧ v7_holes.toInt ≤ 40 := i2
  refine lv_aload_n hx hb dX11_led_0 rfl (lv_at hl 0 rfl) ?_
  refine va_get (D := D) (ci := 11) (v := .ref a7) (C := RX11) (T := TX11) (N := 12) hx hb hts w1 hown hK.1 hP 0 rfl rfl 0 (by decide) w0 (fun _ h9 => h9) rfl dX11_led_1 ?_
  refine lv_iload_n hx hb dX11_led_4 rfl (lv_at hl 1 rfl) ?_
  refine kcm_i hA hAB hP hD hS [false, true, false, false, false, false, false] rfl (fun _ => rfl) (fun hPc hDc => va_runV (As := [.int p1]) (rest := []) ⟨hx, hb, hml, hown, hts⟩ (k_X7_isHole l D κ β a7 r7 v7_count v7_holes v7_worms s.heap.size p1 i1 i2 i3) (cwV 1 hts gX11_led_X7_isHole rfl rfl rfl (by decide +kernel) ⟨Nat.le_of_ble_eq_true rfl, Nat.le_of_ble_eq_true rfl⟩) (pk_V hK hS hAB hPc hDc 0 (ci := 7) rfl rfl rfl) rfl rfl hl.1 rfl (lv_room (Nat.le_of_ble_eq_true rfl)) dX11_led_5 ⟨Nat.le_of_ble_eq_true rfl, Nat.le_of_ble_eq_true rfl⟩) (fun x1 u2 H locs hw hPD hS => ?_)
  have h3 : (x1.toInt = 1 ∧ 0 ≤ p1.toInt ∧ p1.toInt < v7_holes.toInt) ∨ (x1.toInt = 0 ∧ (p1.toInt < 0 ∨ v7_holes.toInt ≤ p1.toInt)) := hw
  obtain ⟨hP, hD⟩ : PD D A [O11 a11 a7 a5 a3 a2 a6 a4 a10 a9 a1 a0 a8 aN, O7 a7 r7 v7_count v7_holes v7_worms, (cI κ (r7 2) 40 f7_sheetOf), (cI κ (r7 3) 40 f7_placeOf), (cI κ (r7 4) 40 f7_byPlace), (cI κ (r7 6) 40 f7_wormOf), (cI κ (r7 7) 40 f7_wormSheets)] H := hPD
  refine lv_if_eq (tgt := 18) hx hb dX11_led_8 (by decide) (fun c4 => ?_) (fun c4 => ?_)
  · have c4 := ci_eq c4
    refine lv_iconst (v := (-1)) hx hb dX11_led_18 (by decide) ?_
    have hpo : (0 ≤ v7_worms.toInt ∧ v7_worms.toInt ≤ 40) ∧ (∀ j : Nat, 0 ≤ (f7_wormOf j).toInt ∧ (f7_wormOf j).toInt ≤ 39) := ⟨i3, hf7_wormOf⟩
    exact ret _ _ _ _ (-1) (v7_worms, f7_wormOf, f7_wormSheets) dX11_led_19 hpo hP hD hS
  have c4 := ci_ne c4
  refine lv_iload_n hx hb dX11_led_11 rfl (lv_at hl 2 rfl) ?_
  refine kcm_i hA hAB hP hD hS [false, false, false, false, false, false, false] rfl (fun _ => rfl) (fun hPc hDc => va_runS (As := [.int p2]) (rest := []) ⟨hx, hb, hml, hown, hts⟩ (k_X11_isSlack l D κ β H.size p2) (va_cwS 1 hts gX11_led_X11_isSlack rfl rfl rfl (by decide +kernel) ⟨Nat.le_of_ble_eq_true rfl, Nat.le_of_ble_eq_true rfl⟩) (pk_S hK hS hAB hPc hDc) rfl rfl hl.1 rfl (lv_room (Nat.le_of_ble_eq_true rfl)) dX11_led_12 ⟨Nat.le_of_ble_eq_true rfl, Nat.le_of_ble_eq_true rfl⟩) (fun x5 u6 H locs hw hPD hS => ?_)
  have h7 : (x5.toInt = 1 ∧ 0 ≤ p2.toInt ∧ p2.toInt ≤ 99) ∨ (x5.toInt = 0 ∧ (p2.toInt < 0 ∨ 99 < p2.toInt)) := hw
  obtain ⟨hP, hD⟩ : PD D A [O11 a11 a7 a5 a3 a2 a6 a4 a10 a9 a1 a0 a8 aN, O7 a7 r7 v7_count v7_holes v7_worms, (cI κ (r7 2) 40 f7_sheetOf), (cI κ (r7 3) 40 f7_placeOf), (cI κ (r7 4) 40 f7_byPlace), (cI κ (r7 6) 40 f7_wormOf), (cI κ (r7 7) 40 f7_wormSheets)] H := hPD
  refine lv_if_ne (tgt := 20) hx hb dX11_led_15 (by decide) (fun c8 => ?_) (fun c8 => ?_)
  · have c8 := ci_ne c8
    refine lv_aload_n hx hb dX11_led_20 rfl (lv_at hl 0 rfl) ?_
    refine va_get (D := D) (ci := 11) (v := .ref a7) (C := RX11) (T := TX11) (N := 12) hx hb hts w1 hown hK.1 hP 0 rfl rfl 0 (by decide) w0 (fun _ h9 => h9) rfl dX11_led_21 ?_
    refine lv_iload_n hx hb dX11_led_24 rfl (lv_at hl 2 rfl) ?_
    refine lv_aload_n hx hb dX11_led_25 rfl (lv_at hl 0 rfl) ?_
    refine va_get (D := D) (ci := 11) (v := .ref a7) (C := RX11) (T := TX11) (N := 12) hx hb hts w1 hown hK.1 hP 0 rfl rfl 0 (by decide) w0 (fun _ h9 => h9) rfl dX11_led_26 ?_
    refine kcm_i hA hAB hP hD hS [false, true, false, false, false, false, false] rfl (fun _ => rfl) (fun hPc hDc => va_runV (As := []) (rest := [.int p2, .ref a7]) ⟨hx, hb, hml, hown, hts⟩ (k_X7_all l D κ β a7 r7 v7_count v7_holes v7_worms H.size i1 i2 i3) (cwV 0 hts gX11_led_X7_all rfl rfl rfl (by decide +kernel) ⟨Nat.le_of_ble_eq_true rfl, Nat.le_of_ble_eq_true rfl⟩) (pk_V hK hS hAB hPc hDc 0 (ci := 7) rfl rfl rfl) rfl rfl hl.1 rfl (lv_room (Nat.le_of_ble_eq_true rfl)) dX11_led_29 ⟨Nat.le_of_ble_eq_true rfl, Nat.le_of_ble_eq_true rfl⟩) (fun x9 u10 H locs hw hPD hS => ?_)
    have h11 : 0 ≤ x9.toInt ∧ x9.toInt ≤ 255 := hw
    obtain ⟨hP, hD⟩ : PD D A [O11 a11 a7 a5 a3 a2 a6 a4 a10 a9 a1 a0 a8 aN, O7 a7 r7 v7_count v7_holes v7_worms, (cI κ (r7 2) 40 f7_sheetOf), (cI κ (r7 3) 40 f7_placeOf), (cI κ (r7 4) 40 f7_byPlace), (cI κ (r7 6) 40 f7_wormOf), (cI κ (r7 7) 40 f7_wormSheets)] H := hPD
    refine kcm_v hA hAB hP hD hS [false, true, true, true, true, true, true] rfl (fun _ => rfl) (fun hPc hDc => va_runV (As := [.int p2, .int x9]) (rest := []) ⟨hx, hb, hml, hown, hts⟩ (k_X7_findWorms l D κ β a7 r7 v7_count v7_holes v7_worms f7_sheetOf f7_placeOf f7_byPlace f7_wormOf f7_wormSheets H.size p2 x9 i1 i2 i3 hf7_sheetOf hf7_byPlace hf7_wormOf) (cwV 2 hts gX11_led_X7_findWorms rfl rfl rfl (by decide +kernel) ⟨Nat.le_of_ble_eq_true rfl, Nat.le_of_ble_eq_true rfl⟩) (pk_V hK hS hAB hPc hDc 0 (ci := 7) rfl rfl rfl) rfl rfl hl.1 rfl (lv_room (Nat.le_of_ble_eq_true rfl)) dX11_led_32 ⟨Nat.le_of_ble_eq_true rfl, Nat.le_of_ble_eq_true rfl⟩) (fun u15 H locs hw hPD hS => ?_)
    obtain ⟨x12, g13, g14⟩ := u15
    obtain ⟨h16, h17⟩ : (Rg 0 40 x12) ∧ (∀ j : Nat, 0 ≤ (g13 j).toInt ∧ (g13 j).toInt ≤ 39) := hw
    obtain ⟨hP, hD⟩ : PD D A [O11 a11 a7 a5 a3 a2 a6 a4 a10 a9 a1 a0 a8 aN, O7 a7 r7 v7_count v7_holes x12, (cI κ (r7 2) 40 f7_sheetOf), (cI κ (r7 3) 40 f7_placeOf), (cI κ (r7 4) 40 f7_byPlace), (cI κ (r7 6) 40 g13), (cI κ (r7 7) 40 g14)] H := hPD
    refine lv_aload_n hx hb dX11_led_35 rfl (lv_at hl 0 rfl) ?_
    refine va_get (D := D) (ci := 11) (v := .ref a7) (C := RX11) (T := TX11) (N := 12) hx hb hts w1 hown hK.1 hP 0 rfl rfl 0 (by decide) w0 (fun _ h9 => h9) rfl dX11_led_36 ?_
    refine va_get (D := D) (ci := 7) (v := .ref (r7 6)) (C := RX7) (T := TX7) (N := 9) hx hb hts w3 hown hK.1 hP 1 rfl rfl 6 (by decide) w2 (fun _ h9 => h9) rfl dX11_led_39 ?_
    refine lv_iload_n hx hb dX11_led_42 rfl (lv_at hl 1 rfl) ?_
    refine va_iald hx hb hK.1 hP 5 1 rfl rfl (i := p1) (ix (by omega) (by omega)) dX11_led_43 ?_
    refine lv_topi (fun x18 e19 => ?_)
    have h20 : 0 ≤ x18.toInt ∧ x18.toInt ≤ 39 := by rw [e19]; exact h17 _
    have hpo : (0 ≤ x12.toInt ∧ x12.toInt ≤ 40) ∧ (∀ j : Nat, 0 ≤ (g13 j).toInt ∧ (g13 j).toInt ≤ 39) := ⟨h16, h17⟩
    exact ret _ _ _ _ x18 (x12, g13, g14) dX11_led_44 hpo hP hD hS
  have c8 := ci_eq c8
  refine lv_iconst (v := (-1)) hx hb dX11_led_18 (by decide) ?_
  have hpo : (0 ≤ v7_worms.toInt ∧ v7_worms.toInt ≤ 40) ∧ (∀ j : Nat, 0 ≤ (f7_wormOf j).toInt ∧ (f7_wormOf j).toInt ≤ 39) := ⟨i3, hf7_wormOf⟩
  exact ret _ _ _ _ (-1) (v7_worms, f7_wormOf, f7_wormSheets) dX11_led_19 hpo hP hD hS
set_option maxHeartbeats 4000000 in
set_option maxRecDepth 100000 in
theorem k_X11_findOrders (l : Launch) (D : va_G) (κ : Nat → ClassId) (β : Nat) (a11 : Nat) (a7 : Nat) (a5 : Nat) (a3 : Nat) (a2 : Nat) (a6 : Nat) (a4 : Nat) (a10 : Nat) (a9 : Nat) (a1 : Nat) (a0 : Nat) (a8 : Nat) (aN : Nat) (r7 : Nat → Nat) (r5 : Nat → Nat) (v7_count : Int32) (v7_holes : Int32) (v7_worms : Int32) (f7_sheetOf : Nat → Int32) (f7_placeOf : Nat → Int32) (f7_byPlace : Nat → Int32) (f7_wormOf : Nat → Int32) (f7_wormSheets : Nat → Int32) (v5_all : Int32) (f5_mayFollow : Nat → Int32) (f5_waysTo : Nat → Int32) (f5_waysOn : Nat → Int32) (sz : Nat) (p1 : Int32) (p2 : Int32) (i1 : Rg 0 8 v7_count) (i2 : Rg 0 40 v7_holes) (i3 : Rg 0 40 v7_worms) (hf7_sheetOf : ∀ j : Nat, 0 ≤ (f7_sheetOf j).toInt ∧ (f7_sheetOf j).toInt ≤ 7) (hf7_byPlace : ∀ j : Nat, 0 ≤ (f7_byPlace j).toInt ∧ (f7_byPlace j).toInt ≤ 39) (hf7_wormOf : ∀ j : Nat, 0 ≤ (f7_wormOf j).toInt ∧ (f7_wormOf j).toInt ≤ 39) (i4 : Rg 0 255 v5_all) (i5 : 0 ≤ p2.toInt ∧ p2.toInt ≤ 255) : Met l yX11_findOrders wsX11_findOrders ({ frames := 3, cells := 0, slots := 0, locals := 69 } : Room) (PcK D κ β [O11 a11 a7 a5 a3 a2 a6 a4 a10 a9 a1 a0 a8 aN, O7 a7 r7 v7_count v7_holes v7_worms, (cI κ (r7 2) 40 f7_sheetOf), (cI κ (r7 3) 40 f7_placeOf), (cI κ (r7 4) 40 f7_byPlace), (cI κ (r7 6) 40 f7_wormOf), (cI κ (r7 7) 40 f7_wormSheets), O5 a5 r5 v5_all, (cI κ (r5 1) 256 f5_mayFollow), (cI κ (r5 2) 256 f5_waysTo), (cI κ (r5 3) 256 f5_waysOn)] sz [.ref a11, .int p1, .int p2]) (QvK D (fun (u : Int32 × (Nat → Int32) × (Nat → Int32) × Int32 × (Nat → Int32) × (Nat → Int32) × (Nat → Int32)) => (0 ≤ u.1.toInt ∧ u.1.toInt ≤ 40) ∧ (∀ j : Nat, 0 ≤ (u.2.1 j).toInt ∧ (u.2.1 j).toInt ≤ 39) ∧ (0 ≤ u.2.2.2.1.toInt ∧ u.2.2.2.1.toInt ≤ 255)) (fun (u : Int32 × (Nat → Int32) × (Nat → Int32) × Int32 × (Nat → Int32) × (Nat → Int32) × (Nat → Int32)) => [O11 a11 a7 a5 a3 a2 a6 a4 a10 a9 a1 a0 a8 aN, O7 a7 r7 v7_count v7_holes u.1, (cI κ (r7 2) 40 f7_sheetOf), (cI κ (r7 3) 40 f7_placeOf), (cI κ (r7 4) 40 f7_byPlace), (cI κ (r7 6) 40 u.2.1), (cI κ (r7 7) 40 u.2.2.1), O5 a5 r5 u.2.2.2.1, (cI κ (r5 1) 256 u.2.2.2.2.1), (cI κ (r5 2) 256 u.2.2.2.2.2.1), (cI κ (r5 3) 256 u.2.2.2.2.2.2)]) [O11 a11 a7 a5 a3 a2 a6 a4 a10 a9 a1 a0 a8 aN, O7 a7 r7 v7_count v7_holes v7_worms, (cI κ (r7 2) 40 f7_sheetOf), (cI κ (r7 3) 40 f7_placeOf), (cI κ (r7 4) 40 f7_byPlace), (cI κ (r7 6) 40 f7_wormOf), (cI κ (r7 7) 40 f7_wormSheets), O5 a5 r5 v5_all, (cI κ (r5 1) 256 f5_mayFollow), (cI κ (r5 2) 256 f5_waysTo), (cI κ (r5 3) 256 f5_waysOn)] sz) 0 0 (va_A [O11 a11 a7 a5 a3 a2 a6 a4 a10 a9 a1 a0 a8 aN, O7 a7 r7 v7_count v7_holes v7_worms, (cI κ (r7 2) 40 f7_sheetOf), (cI κ (r7 3) 40 f7_placeOf), (cI κ (r7 4) 40 f7_byPlace), (cI κ (r7 6) 40 f7_wormOf), (cI κ (r7 7) 40 f7_wormSheets), O5 a5 r5 v5_all, (cI κ (r5 1) 256 f5_mayFollow), (cI κ (r5 2) 256 f5_waysTo), (cI κ (r5 3) 256 f5_waysOn)] sz) := by
  refine ofK_v (cc := cX11_findOrders) (maxL := 3) (own := RX11) (by decide) rfl rfl (Nat.le_of_ble_eq_true rfl) ?_
  intro p e s m args below meth c Q A ls hsz hx hb hml hts hown hK hA hAB hP hD hl hname ret
  have hS : va_S A s.heap s.heap [] := va_S.rf
  have hl : lv_has ls 3 [(0, .ref a11), (1, .int p1), (2, .int p2)] := hl
  have w0 := hts (.fieldLink RX11 10 "OlderSkin" "sheets" "LOlderSkin$Sheets;") (List.mem_of_getElem? (i := 1) rfl)
  have w1 := (fun w h => List.mem_cons_of_mem _ (List.mem_append_left _ (List.mem_append_left _ (List.mem_append_right _ h))) : ∀ w ∈ u_ws RX11 TX11 12, w ∈ wsX11_findOrders)
  have w2 := hts (.fieldLink RX11 19 "OlderSkin" "orders" "LOlderSkin$Orders;") (List.mem_of_getElem? (i := 2) rfl)
  have w3 := hts (.fieldLink RX11 135 "OlderSkin$Sheets" "wormSheets" "[I") (List.mem_of_getElem? (i := 3) rfl)
  have w4 := (fun w h => List.mem_cons_of_mem _ (List.mem_append_left _ (List.mem_append_right _ h)) : ∀ w ∈ u_ws RX7 TX7 9, w ∈ wsX11_findOrders)
  have w5 := hts (.fieldLink RX11 131 "OlderSkin$Sheets" "worms" "I") (List.mem_of_getElem? (i := 4) rfl)
  have i3 : 0 ≤ v7_worms.toInt ∧ v7_worms.toInt ≤ 40 := i3
  refine lv_aload_n hx hb dX11_findOrders_0 rfl (lv_at hl 0 rfl) ?_
  refine va_get (D := D) (ci := 11) (v := .ref a7) (C := RX11) (T := TX11) (N := 12) hx hb hts w1 hown hK.1 hP 0 rfl rfl 0 (by decide) w0 (fun _ h9 => h9) rfl dX11_findOrders_1 ?_
  refine lv_iload_n hx hb dX11_findOrders_4 rfl (lv_at hl 1 rfl) ?_
  refine lv_iload_n hx hb dX11_findOrders_5 rfl (lv_at hl 2 rfl) ?_
  refine kcm_v hA hAB hP hD hS [false, true, true, true, true, true, true, false, false, false, false] rfl (fun _ => rfl) (fun hPc hDc => va_runV (As := [.int p1, .int p2]) (rest := []) ⟨hx, hb, hml, hown, hts⟩ (k_X7_findWorms l D κ β a7 r7 v7_count v7_holes v7_worms f7_sheetOf f7_placeOf f7_byPlace f7_wormOf f7_wormSheets s.heap.size p1 p2 i1 i2 i3 hf7_sheetOf hf7_byPlace hf7_wormOf) (cwV 2 hts gX11_findOrders_X7_findWorms rfl rfl rfl (by decide +kernel) ⟨Nat.le_of_ble_eq_true rfl, Nat.le_of_ble_eq_true rfl⟩) (pk_V hK hS hAB hPc hDc 0 (ci := 7) rfl rfl rfl) rfl rfl hl.1 rfl (lv_room (Nat.le_of_ble_eq_true rfl)) dX11_findOrders_6 ⟨Nat.le_of_ble_eq_true rfl, Nat.le_of_ble_eq_true rfl⟩) (fun u4 H locs hw hPD hS => ?_)
  obtain ⟨x1, g2, g3⟩ := u4
  obtain ⟨h5, h6⟩ : (0 ≤ x1.toInt ∧ x1.toInt ≤ 40) ∧ (∀ j : Nat, 0 ≤ (g2 j).toInt ∧ (g2 j).toInt ≤ 39) := hw
  obtain ⟨hP, hD⟩ : PD D A [O11 a11 a7 a5 a3 a2 a6 a4 a10 a9 a1 a0 a8 aN, O7 a7 r7 v7_count v7_holes x1, (cI κ (r7 2) 40 f7_sheetOf), (cI κ (r7 3) 40 f7_placeOf), (cI κ (r7 4) 40 f7_byPlace), (cI κ (r7 6) 40 g2), (cI κ (r7 7) 40 g3), O5 a5 r5 v5_all, (cI κ (r5 1) 256 f5_mayFollow), (cI κ (r5 2) 256 f5_waysTo), (cI κ (r5 3) 256 f5_waysOn)] H := hPD
  refine lv_aload_n hx hb dX11_findOrders_9 rfl (lv_at hl 0 rfl) ?_
  refine va_get (D := D) (ci := 11) (v := .ref a5) (C := RX11) (T := TX11) (N := 12) hx hb hts w1 hown hK.1 hP 0 rfl rfl 1 (by decide) w2 (fun _ h9 => h9) rfl dX11_findOrders_10 ?_
  refine lv_iload_n hx hb dX11_findOrders_13 rfl (lv_at hl 2 rfl) ?_
  refine lv_aload_n hx hb dX11_findOrders_14 rfl (lv_at hl 0 rfl) ?_
  refine va_get (D := D) (ci := 11) (v := .ref a7) (C := RX11) (T := TX11) (N := 12) hx hb hts w1 hown hK.1 hP 0 rfl rfl 0 (by decide) w0 (fun _ h9 => h9) rfl dX11_findOrders_15 ?_
  refine va_get (D := D) (ci := 7) (v := .ref (r7 7)) (C := RX7) (T := TX7) (N := 9) hx hb hts w4 hown hK.1 hP 1 rfl rfl 7 (by decide) w3 (fun _ h9 => h9) rfl dX11_findOrders_18 ?_
  refine lv_aload_n hx hb dX11_findOrders_21 rfl (lv_at hl 0 rfl) ?_
  refine va_get (D := D) (ci := 11) (v := .ref a7) (C := RX11) (T := TX11) (N := 12) hx hb hts w1 hown hK.1 hP 0 rfl rfl 0 (by decide) w0 (fun _ h9 => h9) rfl dX11_findOrders_22 ?_
  refine va_get (D := D) (ci := 7) (v := .int x1) (C := RX7) (T := TX7) (N := 9) hx hb hts w4 hown hK.1 hP 1 rfl rfl 8 (by decide) w5 (fun _ h9 => h9) rfl dX11_findOrders_25 ?_
  refine kc_v hA hAB hP hD hS (wc := [O5 a5 r5 v5_all, (cI κ (r5 1) 256 f5_mayFollow), (cI κ (r5 2) 256 f5_waysTo), (cI κ (r5 3) 256 f5_waysOn), (cI κ (r7 7) 40 g3)]) (wr := [O11 a11 a7 a5 a3 a2 a6 a4 a10 a9 a1 a0 a8 aN, O7 a7 r7 v7_count v7_holes x1, (cI κ (r7 2) 40 f7_sheetOf), (cI κ (r7 3) 40 f7_placeOf), (cI κ (r7 4) 40 f7_byPlace), (cI κ (r7 6) 40 g2)]) [7, 8, 9, 10, 6] [0, 1, 2, 3, 4, 5] rfl rfl (by decide) (by decide) (by decide) (fun hPc hDc => va_runV (As := [.int p2, .ref (r7 7), .int x1]) (rest := []) ⟨hx, hb, hml, hown, hts⟩ (k_X5_lay l D κ β a5 r5 v5_all f5_mayFollow f5_waysTo f5_waysOn g3 H.size p2 (r7 7) x1 i4 (by omega) (by omega)) (cwV 3 hts gX11_findOrders_X5_lay rfl rfl rfl (by decide +kernel) ⟨Nat.le_of_ble_eq_true rfl, Nat.le_of_ble_eq_true rfl⟩) (pk_V hK hS hAB hPc hDc 0 (ci := 5) rfl rfl rfl) rfl rfl hl.1 rfl (lv_room (Nat.le_of_ble_eq_true rfl)) dX11_findOrders_28 ⟨Nat.le_of_ble_eq_true rfl, Nat.le_of_ble_eq_true rfl⟩) (fun u11 H locs hw hP hD hS => ?_)
  obtain ⟨x7, g8, g9, g10⟩ := u11
  have h12 : Rg 0 255 x7 := hw
  obtain ⟨hP, hD⟩ : PD D A [O11 a11 a7 a5 a3 a2 a6 a4 a10 a9 a1 a0 a8 aN, O7 a7 r7 v7_count v7_holes x1, (cI κ (r7 2) 40 f7_sheetOf), (cI κ (r7 3) 40 f7_placeOf), (cI κ (r7 4) 40 f7_byPlace), (cI κ (r7 6) 40 g2), O5 a5 r5 x7, (cI κ (r5 1) 256 g8), (cI κ (r5 2) 256 g9), (cI κ (r5 3) 256 g10), (cI κ (r7 7) 40 g3)] H := ⟨hP, hD⟩
  obtain ⟨hP, hD⟩ : PD D A [O11 a11 a7 a5 a3 a2 a6 a4 a10 a9 a1 a0 a8 aN, O7 a7 r7 v7_count v7_holes x1, (cI κ (r7 2) 40 f7_sheetOf), (cI κ (r7 3) 40 f7_placeOf), (cI κ (r7 4) 40 f7_byPlace), (cI κ (r7 6) 40 g2), (cI κ (r7 7) 40 g3), O5 a5 r5 x7, (cI κ (r5 1) 256 g8), (cI κ (r5 2) 256 g9), (cI κ (r5 3) 256 g10)] H := ⟨hP.sub [0, 1, 2, 3, 4, 5, 10, 6, 7, 8, 9] rfl, hD.sub [0, 1, 2, 3, 4, 5, 10, 6, 7, 8, 9] (by decide) rfl⟩
  have hpo : (0 ≤ x1.toInt ∧ x1.toInt ≤ 40) ∧ (∀ j : Nat, 0 ≤ (g2 j).toInt ∧ (g2 j).toInt ≤ 39) ∧ (0 ≤ x7.toInt ∧ x7.toInt ≤ 255) := ⟨h5, h6, h12⟩
  exact ret _ _ _ _ (x1, g2, g3, x7, g8, g9, g10) dX11_findOrders_31 hpo hP hD hS
set_option maxHeartbeats 4000000 in
set_option maxRecDepth 100000 in
theorem k_X11_orders (l : Launch) (D : va_G) (κ : Nat → ClassId) (β : Nat) (a11 : Nat) (a7 : Nat) (a5 : Nat) (a3 : Nat) (a2 : Nat) (a6 : Nat) (a4 : Nat) (a10 : Nat) (a9 : Nat) (a1 : Nat) (a0 : Nat) (a8 : Nat) (aN : Nat) (r7 : Nat → Nat) (r5 : Nat → Nat) (v7_count : Int32) (v7_holes : Int32) (v7_worms : Int32) (f7_sheetOf : Nat → Int32) (f7_placeOf : Nat → Int32) (f7_byPlace : Nat → Int32) (f7_wormOf : Nat → Int32) (f7_wormSheets : Nat → Int32) (v5_all : Int32) (f5_mayFollow : Nat → Int32) (f5_waysTo : Nat → Int32) (f5_waysOn : Nat → Int32) (sz : Nat) (p1 : Int32) (p2 : Int32) (i1 : Rg 0 8 v7_count) (i2 : Rg 0 40 v7_holes) (i3 : Rg 0 40 v7_worms) (hf7_sheetOf : ∀ j : Nat, 0 ≤ (f7_sheetOf j).toInt ∧ (f7_sheetOf j).toInt ≤ 7) (hf7_byPlace : ∀ j : Nat, 0 ≤ (f7_byPlace j).toInt ∧ (f7_byPlace j).toInt ≤ 39) (hf7_wormOf : ∀ j : Nat, 0 ≤ (f7_wormOf j).toInt ∧ (f7_wormOf j).toInt ≤ 39) (i4 : Rg 0 255 v5_all) : Met l yX11_orders wsX11_orders ({ frames := 4, cells := 0, slots := 0, locals := 91 } : Room) (PcK D κ β [O11 a11 a7 a5 a3 a2 a6 a4 a10 a9 a1 a0 a8 aN, O7 a7 r7 v7_count v7_holes v7_worms, (cI κ (r7 2) 40 f7_sheetOf), (cI κ (r7 3) 40 f7_placeOf), (cI κ (r7 4) 40 f7_byPlace), (cI κ (r7 6) 40 f7_wormOf), (cI κ (r7 7) 40 f7_wormSheets), O5 a5 r5 v5_all, (cI κ (r5 1) 256 f5_mayFollow), (cI κ (r5 2) 256 f5_waysTo), (cI κ (r5 3) 256 f5_waysOn)] sz [.ref a11, .int p1, .int p2]) (QiK D (fun (r : Int32) (u : Int32 × (Nat → Int32) × (Nat → Int32) × Int32 × (Nat → Int32) × (Nat → Int32) × (Nat → Int32)) => (0 ≤ u.1.toInt ∧ u.1.toInt ≤ 40) ∧ (∀ j : Nat, 0 ≤ (u.2.1 j).toInt ∧ (u.2.1 j).toInt ≤ 39) ∧ (0 ≤ u.2.2.2.1.toInt ∧ u.2.2.2.1.toInt ≤ 255)) (fun (u : Int32 × (Nat → Int32) × (Nat → Int32) × Int32 × (Nat → Int32) × (Nat → Int32) × (Nat → Int32)) => [O11 a11 a7 a5 a3 a2 a6 a4 a10 a9 a1 a0 a8 aN, O7 a7 r7 v7_count v7_holes u.1, (cI κ (r7 2) 40 f7_sheetOf), (cI κ (r7 3) 40 f7_placeOf), (cI κ (r7 4) 40 f7_byPlace), (cI κ (r7 6) 40 u.2.1), (cI κ (r7 7) 40 u.2.2.1), O5 a5 r5 u.2.2.2.1, (cI κ (r5 1) 256 u.2.2.2.2.1), (cI κ (r5 2) 256 u.2.2.2.2.2.1), (cI κ (r5 3) 256 u.2.2.2.2.2.2)]) [O11 a11 a7 a5 a3 a2 a6 a4 a10 a9 a1 a0 a8 aN, O7 a7 r7 v7_count v7_holes v7_worms, (cI κ (r7 2) 40 f7_sheetOf), (cI κ (r7 3) 40 f7_placeOf), (cI κ (r7 4) 40 f7_byPlace), (cI κ (r7 6) 40 f7_wormOf), (cI κ (r7 7) 40 f7_wormSheets), O5 a5 r5 v5_all, (cI κ (r5 1) 256 f5_mayFollow), (cI κ (r5 2) 256 f5_waysTo), (cI κ (r5 3) 256 f5_waysOn)] sz) 0 0 (va_A [O11 a11 a7 a5 a3 a2 a6 a4 a10 a9 a1 a0 a8 aN, O7 a7 r7 v7_count v7_holes v7_worms, (cI κ (r7 2) 40 f7_sheetOf), (cI κ (r7 3) 40 f7_placeOf), (cI κ (r7 4) 40 f7_byPlace), (cI κ (r7 6) 40 f7_wormOf), (cI κ (r7 7) 40 f7_wormSheets), O5 a5 r5 v5_all, (cI κ (r5 1) 256 f5_mayFollow), (cI κ (r5 2) 256 f5_waysTo), (cI κ (r5 3) 256 f5_waysOn)] sz) := by
  refine ofK_i (cc := cX11_orders) (maxL := 3) (own := RX11) (by decide) rfl rfl (Nat.le_of_ble_eq_true rfl) ?_
  intro p e s m args below meth c Q A ls hsz hx hb hml hts hown hK hA hAB hP hD hl ret
  have hS : va_S A s.heap s.heap [] := va_S.rf
  have hl : lv_has ls 3 [(0, .ref a11), (1, .int p1), (2, .int p2)] := hl
  have w0 := hts (.fieldLink RX11 10 "OlderSkin" "sheets" "LOlderSkin$Sheets;") (List.mem_of_getElem? (i := 1) rfl)
  have w1 := (fun w h => List.mem_cons_of_mem _ (List.mem_append_left _ (List.mem_append_left _ (List.mem_append_right _ h))) : ∀ w ∈ u_ws RX11 TX11 12, w ∈ wsX11_orders)
  have w2 := hts (.fieldLink RX11 147 "OlderSkin$Sheets" "count" "I") (List.mem_of_getElem? (i := 2) rfl)
  have w3 := (fun w h => List.mem_cons_of_mem _ (List.mem_append_left _ (List.mem_append_right _ h)) : ∀ w ∈ u_ws RX7 TX7 9, w ∈ wsX11_orders)
  have w4 := hts (.fieldLink RX11 19 "OlderSkin" "orders" "LOlderSkin$Orders;") (List.mem_of_getElem? (i := 3) rfl)
  have l0 : (0 : Int32).toInt = 0 := by decide
  have l1 : ((-1) : Int32).toInt = -1 := by decide
  have l2 : (6 : Int32).toInt = 6 := by decide
  have l3 : ((-4) : Int32).toInt = -4 := by decide
  have i1 : 0 ≤ v7_count.toInt ∧ v7_count.toInt ≤ 8 := i1
  refine lv_iload_n hx hb dX11_orders_0 rfl (lv_at hl 1 rfl) ?_
  refine kcm_i hA hAB hP hD hS [false, false, false, false, false, false, false, false, false, false, false] rfl (fun _ => rfl) (fun hPc hDc => va_runS (As := [.int p1]) (rest := []) ⟨hx, hb, hml, hown, hts⟩ (k_X11_isSlack l D κ β s.heap.size p1) (va_cwS 1 hts gX11_orders_X11_isSlack rfl rfl rfl (by decide +kernel) ⟨Nat.le_of_ble_eq_true rfl, Nat.le_of_ble_eq_true rfl⟩) (pk_S hK hS hAB hPc hDc) rfl rfl hl.1 rfl (lv_room (Nat.le_of_ble_eq_true rfl)) dX11_orders_1 ⟨Nat.le_of_ble_eq_true rfl, Nat.le_of_ble_eq_true rfl⟩) (fun x1 u2 H locs hw hPD hS => ?_)
  have h3 : (x1.toInt = 1 ∧ 0 ≤ p1.toInt ∧ p1.toInt ≤ 99) ∨ (x1.toInt = 0 ∧ (p1.toInt < 0 ∨ 99 < p1.toInt)) := hw
  obtain ⟨hP, hD⟩ : PD D A [O11 a11 a7 a5 a3 a2 a6 a4 a10 a9 a1 a0 a8 aN, O7 a7 r7 v7_count v7_holes v7_worms, (cI κ (r7 2) 40 f7_sheetOf), (cI κ (r7 3) 40 f7_placeOf), (cI κ (r7 4) 40 f7_byPlace), (cI κ (r7 6) 40 f7_wormOf), (cI κ (r7 7) 40 f7_wormSheets), O5 a5 r5 v5_all, (cI κ (r5 1) 256 f5_mayFollow), (cI κ (r5 2) 256 f5_waysTo), (cI κ (r5 3) 256 f5_waysOn)] H := hPD
  refine lv_if_eq (tgt := 14) hx hb dX11_orders_4 (by decide) (fun c4 => ?_) (fun c4 => ?_)
  · have c4 := ci_eq c4
    refine lv_iconst (v := (-1)) hx hb dX11_orders_14 (by decide) ?_
    have hpo : (0 ≤ v7_worms.toInt ∧ v7_worms.toInt ≤ 40) ∧ (∀ j : Nat, 0 ≤ (f7_wormOf j).toInt ∧ (f7_wormOf j).toInt ≤ 39) ∧ (0 ≤ v5_all.toInt ∧ v5_all.toInt ≤ 255) := ⟨i3, hf7_wormOf, i4⟩
    exact ret _ _ _ _ (-1) (v7_worms, f7_wormOf, f7_wormSheets, v5_all, f5_mayFollow, f5_waysTo, f5_waysOn) dX11_orders_15 hpo hP hD hS
  have c4 := ci_ne c4
  refine lv_iload_n hx hb dX11_orders_7 rfl (lv_at hl 2 rfl) ?_
  refine kcm_i hA hAB hP hD hS [false, false, false, false, false, false, false, false, false, false, false] rfl (fun _ => rfl) (fun hPc hDc => va_runS (As := [.int p2]) (rest := []) ⟨hx, hb, hml, hown, hts⟩ (k_X11_isBit l D κ β H.size p2) (va_cwS 1 hts gX11_orders_X11_isBit rfl rfl rfl (by decide +kernel) ⟨Nat.le_of_ble_eq_true rfl, Nat.le_of_ble_eq_true rfl⟩) (pk_S hK hS hAB hPc hDc) rfl rfl hl.1 rfl (lv_room (Nat.le_of_ble_eq_true rfl)) dX11_orders_8 ⟨Nat.le_of_ble_eq_true rfl, Nat.le_of_ble_eq_true rfl⟩) (fun x5 u6 H locs hw hPD hS => ?_)
  have h7 : (x5.toInt = 1 ∧ 0 ≤ p2.toInt ∧ p2.toInt ≤ 1) ∨ (x5.toInt = 0 ∧ (p2.toInt < 0 ∨ 1 < p2.toInt)) := hw
  obtain ⟨hP, hD⟩ : PD D A [O11 a11 a7 a5 a3 a2 a6 a4 a10 a9 a1 a0 a8 aN, O7 a7 r7 v7_count v7_holes v7_worms, (cI κ (r7 2) 40 f7_sheetOf), (cI κ (r7 3) 40 f7_placeOf), (cI κ (r7 4) 40 f7_byPlace), (cI κ (r7 6) 40 f7_wormOf), (cI κ (r7 7) 40 f7_wormSheets), O5 a5 r5 v5_all, (cI κ (r5 1) 256 f5_mayFollow), (cI κ (r5 2) 256 f5_waysTo), (cI κ (r5 3) 256 f5_waysOn)] H := hPD
  refine lv_if_ne (tgt := 16) hx hb dX11_orders_11 (by decide) (fun c8 => ?_) (fun c8 => ?_)
  · have c8 := ci_ne c8
    refine lv_aload_n hx hb dX11_orders_16 rfl (lv_at hl 0 rfl) ?_
    refine va_get (D := D) (ci := 11) (v := .ref a7) (C := RX11) (T := TX11) (N := 12) hx hb hts w1 hown hK.1 hP 0 rfl rfl 0 (by decide) w0 (fun _ h9 => h9) rfl dX11_orders_17 ?_
    refine va_get (D := D) (ci := 7) (v := .int v7_count) (C := RX7) (T := TX7) (N := 9) hx hb hts w3 hown hK.1 hP 1 rfl rfl 1 (by decide) w2 (fun _ h9 => h9) rfl dX11_orders_20 ?_
    refine lv_bipush (v := 6) hx hb dX11_orders_23 (by decide) ?_
    refine lv_icmp_le (tgt := 31) hx hb dX11_orders_25 (by decide) (fun c9 => ?_) (fun c9 => ?_)
    · have c9 := ci_le c9
      refine lv_aload_n hx hb dX11_orders_31 rfl (lv_at hl 0 rfl) ?_
      refine lv_iload_n hx hb dX11_orders_32 rfl (lv_at hl 1 rfl) ?_
      refine lv_aload_n hx hb dX11_orders_33 rfl (lv_at hl 0 rfl) ?_
      refine va_get (D := D) (ci := 11) (v := .ref a7) (C := RX11) (T := TX11) (N := 12) hx hb hts w1 hown hK.1 hP 0 rfl rfl 0 (by decide) w0 (fun _ h9 => h9) rfl dX11_orders_34 ?_
      refine kcm_i hA hAB hP hD hS [false, true, false, false, false, false, false, false, false, false, false] rfl (fun _ => rfl) (fun hPc hDc => va_runV (As := []) (rest := [.int p1, .ref a11]) ⟨hx, hb, hml, hown, hts⟩ (k_X7_all l D κ β a7 r7 v7_count v7_holes v7_worms H.size i1 i2 i3) (cwV 0 hts gX11_orders_X7_all rfl rfl rfl (by decide +kernel) ⟨Nat.le_of_ble_eq_true rfl, Nat.le_of_ble_eq_true rfl⟩) (pk_V hK hS hAB hPc hDc 0 (ci := 7) rfl rfl rfl) rfl rfl hl.1 rfl (lv_room (Nat.le_of_ble_eq_true rfl)) dX11_orders_37 ⟨Nat.le_of_ble_eq_true rfl, Nat.le_of_ble_eq_true rfl⟩) (fun x10 u11 H locs hw hPD hS => ?_)
      have h12 : 0 ≤ x10.toInt ∧ x10.toInt ≤ 255 := hw
      obtain ⟨hP, hD⟩ : PD D A [O11 a11 a7 a5 a3 a2 a6 a4 a10 a9 a1 a0 a8 aN, O7 a7 r7 v7_count v7_holes v7_worms, (cI κ (r7 2) 40 f7_sheetOf), (cI κ (r7 3) 40 f7_placeOf), (cI κ (r7 4) 40 f7_byPlace), (cI κ (r7 6) 40 f7_wormOf), (cI κ (r7 7) 40 f7_wormSheets), O5 a5 r5 v5_all, (cI κ (r5 1) 256 f5_mayFollow), (cI κ (r5 2) 256 f5_waysTo), (cI κ (r5 3) 256 f5_waysOn)] H := hPD
      refine kcm_v hA hAB hP hD hS [true, true, true, true, true, true, true, true, true, true, true] rfl (fun _ => rfl) (fun hPc hDc => va_runV (As := [.int p1, .int x10]) (rest := []) ⟨hx, hb, hml, hown, hts⟩ (k_X11_findOrders l D κ β a11 a7 a5 a3 a2 a6 a4 a10 a9 a1 a0 a8 aN r7 r5 v7_count v7_holes v7_worms f7_sheetOf f7_placeOf f7_byPlace f7_wormOf f7_wormSheets v5_all f5_mayFollow f5_waysTo f5_waysOn H.size p1 x10 i1 i2 i3 hf7_sheetOf hf7_byPlace hf7_wormOf i4 (by omega)) (cwV 2 hts gX11_orders_X11_findOrders rfl rfl rfl (by decide +kernel) ⟨Nat.le_of_ble_eq_true rfl, Nat.le_of_ble_eq_true rfl⟩) (pk_V hK hS hAB hPc hDc 0 (ci := 11) rfl rfl rfl) rfl rfl hl.1 rfl (lv_room (Nat.le_of_ble_eq_true rfl)) dX11_orders_40 ⟨Nat.le_of_ble_eq_true rfl, Nat.le_of_ble_eq_true rfl⟩) (fun u20 H locs hw hPD hS => ?_)
      obtain ⟨x13, g14, g15, x16, g17, g18, g19⟩ := u20
      obtain ⟨h21, h22, h23⟩ : (Rg 0 40 x13) ∧ (∀ j : Nat, 0 ≤ (g14 j).toInt ∧ (g14 j).toInt ≤ 39) ∧ (Rg 0 255 x16) := hw
      obtain ⟨hP, hD⟩ : PD D A [O11 a11 a7 a5 a3 a2 a6 a4 a10 a9 a1 a0 a8 aN, O7 a7 r7 v7_count v7_holes x13, (cI κ (r7 2) 40 f7_sheetOf), (cI κ (r7 3) 40 f7_placeOf), (cI κ (r7 4) 40 f7_byPlace), (cI κ (r7 6) 40 g14), (cI κ (r7 7) 40 g15), O5 a5 r5 x16, (cI κ (r5 1) 256 g17), (cI κ (r5 2) 256 g18), (cI κ (r5 3) 256 g19)] H := hPD
      refine lv_iload_n hx hb dX11_orders_43 rfl (lv_at hl 2 rfl) ?_
      refine lv_if_ne (tgt := 57) hx hb dX11_orders_44 (by decide) (fun c24 => ?_) (fun c24 => ?_)
      · have c24 := ci_ne c24
        refine lv_aload_n hx hb dX11_orders_57 rfl (lv_at hl 0 rfl) ?_
        refine va_get (D := D) (ci := 11) (v := .ref a5) (C := RX11) (T := TX11) (N := 12) hx hb hts w1 hown hK.1 hP 0 rfl rfl 1 (by decide) w4 (fun _ h9 => h9) rfl dX11_orders_58 ?_
        refine kcm_i hA hAB hP hD hS [false, false, false, false, false, false, false, true, true, false, true] rfl (fun _ => rfl) (fun hPc hDc => va_runV (As := []) (rest := []) ⟨hx, hb, hml, hown, hts⟩ (k_X5_firstAsDigits l D κ β a5 r5 x16 g17 g19 H.size h23) (cwV 0 hts gX11_orders_X5_firstAsDigits rfl rfl rfl (by decide +kernel) ⟨Nat.le_of_ble_eq_true rfl, Nat.le_of_ble_eq_true rfl⟩) (pk_V hK hS hAB hPc hDc 0 (ci := 5) rfl rfl rfl) rfl rfl hl.1 rfl (lv_room (Nat.le_of_ble_eq_true rfl)) dX11_orders_61 ⟨Nat.le_of_ble_eq_true rfl, Nat.le_of_ble_eq_true rfl⟩) (fun x25 u26 H locs hw hPD hS => ?_)
        obtain ⟨hP, hD⟩ : PD D A [O11 a11 a7 a5 a3 a2 a6 a4 a10 a9 a1 a0 a8 aN, O7 a7 r7 v7_count v7_holes x13, (cI κ (r7 2) 40 f7_sheetOf), (cI κ (r7 3) 40 f7_placeOf), (cI κ (r7 4) 40 f7_byPlace), (cI κ (r7 6) 40 g14), (cI κ (r7 7) 40 g15), O5 a5 r5 x16, (cI κ (r5 1) 256 g17), (cI κ (r5 2) 256 g18), (cI κ (r5 3) 256 g19)] H := hPD
        have hpo : (0 ≤ x13.toInt ∧ x13.toInt ≤ 40) ∧ (∀ j : Nat, 0 ≤ (g14 j).toInt ∧ (g14 j).toInt ≤ 39) ∧ (0 ≤ x16.toInt ∧ x16.toInt ≤ 255) := ⟨h21, h22, h23⟩
        exact ret _ _ _ _ x25 (x13, g14, g15, x16, g17, g18, g19) dX11_orders_64 hpo hP hD hS
      have c24 := ci_eq c24
      refine lv_aload_n hx hb dX11_orders_47 rfl (lv_at hl 0 rfl) ?_
      refine va_get (D := D) (ci := 11) (v := .ref a5) (C := RX11) (T := TX11) (N := 12) hx hb hts w1 hown hK.1 hP 0 rfl rfl 1 (by decide) w4 (fun _ h9 => h9) rfl dX11_orders_48 ?_
      refine kcm_i hA hAB hP hD hS [false, false, false, false, false, false, false, true, false, false, true] rfl (fun _ => rfl) (fun hPc hDc => va_runV (As := []) (rest := []) ⟨hx, hb, hml, hown, hts⟩ (k_X5_howMany l D κ β a5 r5 x16 g19 H.size h23) (cwV 0 hts gX11_orders_X5_howMany rfl rfl rfl (by decide +kernel) ⟨Nat.le_of_ble_eq_true rfl, Nat.le_of_ble_eq_true rfl⟩) (pk_V hK hS hAB hPc hDc 0 (ci := 5) rfl rfl rfl) rfl rfl hl.1 rfl (lv_room (Nat.le_of_ble_eq_true rfl)) dX11_orders_51 ⟨Nat.le_of_ble_eq_true rfl, Nat.le_of_ble_eq_true rfl⟩) (fun x27 u28 H locs hw hPD hS => ?_)
      obtain ⟨hP, hD⟩ : PD D A [O11 a11 a7 a5 a3 a2 a6 a4 a10 a9 a1 a0 a8 aN, O7 a7 r7 v7_count v7_holes x13, (cI κ (r7 2) 40 f7_sheetOf), (cI κ (r7 3) 40 f7_placeOf), (cI κ (r7 4) 40 f7_byPlace), (cI κ (r7 6) 40 g14), (cI κ (r7 7) 40 g15), O5 a5 r5 x16, (cI κ (r5 1) 256 g17), (cI κ (r5 2) 256 g18), (cI κ (r5 3) 256 g19)] H := hPD
      refine lv_goto (tgt := 64) hx hb dX11_orders_54 (by decide) ?_
      have hpo : (0 ≤ x13.toInt ∧ x13.toInt ≤ 40) ∧ (∀ j : Nat, 0 ≤ (g14 j).toInt ∧ (g14 j).toInt ≤ 39) ∧ (0 ≤ x16.toInt ∧ x16.toInt ≤ 255) := ⟨h21, h22, h23⟩
      exact ret _ _ _ _ x27 (x13, g14, g15, x16, g17, g18, g19) dX11_orders_64 hpo hP hD hS
    have c9 := ci_nle c9
    refine lv_bipush (v := (-4)) hx hb dX11_orders_28 (by decide) ?_
    have hpo : (0 ≤ v7_worms.toInt ∧ v7_worms.toInt ≤ 40) ∧ (∀ j : Nat, 0 ≤ (f7_wormOf j).toInt ∧ (f7_wormOf j).toInt ≤ 39) ∧ (0 ≤ v5_all.toInt ∧ v5_all.toInt ≤ 255) := ⟨i3, hf7_wormOf, i4⟩
    exact ret _ _ _ _ (-4) (v7_worms, f7_wormOf, f7_wormSheets, v5_all, f5_mayFollow, f5_waysTo, f5_waysOn) dX11_orders_30 hpo hP hD hS
  have c8 := ci_eq c8
  refine lv_iconst (v := (-1)) hx hb dX11_orders_14 (by decide) ?_
  have hpo : (0 ≤ v7_worms.toInt ∧ v7_worms.toInt ≤ 40) ∧ (∀ j : Nat, 0 ≤ (f7_wormOf j).toInt ∧ (f7_wormOf j).toInt ≤ 39) ∧ (0 ≤ v5_all.toInt ∧ v5_all.toInt ≤ 255) := ⟨i3, hf7_wormOf, i4⟩
  exact ret _ _ _ _ (-1) (v7_worms, f7_wormOf, f7_wormSheets, v5_all, f5_mayFollow, f5_waysTo, f5_waysOn) dX11_orders_15 hpo hP hD hS
set_option maxHeartbeats 4000000 in
set_option maxRecDepth 100000 in
theorem k_X11_side (l : Launch) (D : va_G) (κ : Nat → ClassId) (β : Nat) (a11 : Nat) (a7 : Nat) (a5 : Nat) (a3 : Nat) (a2 : Nat) (a6 : Nat) (a4 : Nat) (a10 : Nat) (a9 : Nat) (a1 : Nat) (a0 : Nat) (a8 : Nat) (aN : Nat) (r7 : Nat → Nat) (r5 : Nat → Nat) (v7_count : Int32) (v7_holes : Int32) (v7_worms : Int32) (f7_sheetOf : Nat → Int32) (f7_placeOf : Nat → Int32) (f7_byPlace : Nat → Int32) (f7_wormOf : Nat → Int32) (f7_wormSheets : Nat → Int32) (v5_all : Int32) (f5_mayFollow : Nat → Int32) (f5_waysTo : Nat → Int32) (f5_waysOn : Nat → Int32) (sz : Nat) (p1 : Int32) (p2 : Int32) (p3 : Int32) (i1 : Rg 0 8 v7_count) (i2 : Rg 0 40 v7_holes) (i3 : Rg 0 40 v7_worms) (hf7_sheetOf : ∀ j : Nat, 0 ≤ (f7_sheetOf j).toInt ∧ (f7_sheetOf j).toInt ≤ 7) (hf7_byPlace : ∀ j : Nat, 0 ≤ (f7_byPlace j).toInt ∧ (f7_byPlace j).toInt ≤ 39) (hf7_wormOf : ∀ j : Nat, 0 ≤ (f7_wormOf j).toInt ∧ (f7_wormOf j).toInt ≤ 39) (i4 : Rg 0 255 v5_all) : Met l yX11_side wsX11_side ({ frames := 4, cells := 0, slots := 0, locals := 91 } : Room) (PcK D κ β [O11 a11 a7 a5 a3 a2 a6 a4 a10 a9 a1 a0 a8 aN, O7 a7 r7 v7_count v7_holes v7_worms, (cI κ (r7 2) 40 f7_sheetOf), (cI κ (r7 3) 40 f7_placeOf), (cI κ (r7 4) 40 f7_byPlace), (cI κ (r7 6) 40 f7_wormOf), (cI κ (r7 7) 40 f7_wormSheets), O5 a5 r5 v5_all, (cI κ (r5 1) 256 f5_mayFollow), (cI κ (r5 2) 256 f5_waysTo), (cI κ (r5 3) 256 f5_waysOn)] sz [.ref a11, .int p1, .int p2, .int p3]) (QiK D (fun (r : Int32) (u : Int32 × (Nat → Int32) × (Nat → Int32) × Int32 × (Nat → Int32) × (Nat → Int32) × (Nat → Int32)) => (0 ≤ u.1.toInt ∧ u.1.toInt ≤ 40) ∧ (∀ j : Nat, 0 ≤ (u.2.1 j).toInt ∧ (u.2.1 j).toInt ≤ 39) ∧ (0 ≤ u.2.2.2.1.toInt ∧ u.2.2.2.1.toInt ≤ 255)) (fun (u : Int32 × (Nat → Int32) × (Nat → Int32) × Int32 × (Nat → Int32) × (Nat → Int32) × (Nat → Int32)) => [O11 a11 a7 a5 a3 a2 a6 a4 a10 a9 a1 a0 a8 aN, O7 a7 r7 v7_count v7_holes u.1, (cI κ (r7 2) 40 f7_sheetOf), (cI κ (r7 3) 40 f7_placeOf), (cI κ (r7 4) 40 f7_byPlace), (cI κ (r7 6) 40 u.2.1), (cI κ (r7 7) 40 u.2.2.1), O5 a5 r5 u.2.2.2.1, (cI κ (r5 1) 256 u.2.2.2.2.1), (cI κ (r5 2) 256 u.2.2.2.2.2.1), (cI κ (r5 3) 256 u.2.2.2.2.2.2)]) [O11 a11 a7 a5 a3 a2 a6 a4 a10 a9 a1 a0 a8 aN, O7 a7 r7 v7_count v7_holes v7_worms, (cI κ (r7 2) 40 f7_sheetOf), (cI κ (r7 3) 40 f7_placeOf), (cI κ (r7 4) 40 f7_byPlace), (cI κ (r7 6) 40 f7_wormOf), (cI κ (r7 7) 40 f7_wormSheets), O5 a5 r5 v5_all, (cI κ (r5 1) 256 f5_mayFollow), (cI κ (r5 2) 256 f5_waysTo), (cI κ (r5 3) 256 f5_waysOn)] sz) 0 0 (va_A [O11 a11 a7 a5 a3 a2 a6 a4 a10 a9 a1 a0 a8 aN, O7 a7 r7 v7_count v7_holes v7_worms, (cI κ (r7 2) 40 f7_sheetOf), (cI κ (r7 3) 40 f7_placeOf), (cI κ (r7 4) 40 f7_byPlace), (cI κ (r7 6) 40 f7_wormOf), (cI κ (r7 7) 40 f7_wormSheets), O5 a5 r5 v5_all, (cI κ (r5 1) 256 f5_mayFollow), (cI κ (r5 2) 256 f5_waysTo), (cI κ (r5 3) 256 f5_waysOn)] sz) := by
  refine ofK_i (cc := cX11_side) (maxL := 8) (own := RX11) (by decide) rfl rfl (Nat.le_of_ble_eq_true rfl) ?_
  intro p e s m args below meth c Q A ls hsz hx hb hml hts hown hK hA hAB hP hD hl ret
  have hS : va_S A s.heap s.heap [] := va_S.rf
  have hl : lv_has ls 8 [(0, .ref a11), (1, .int p1), (2, .int p2), (3, .int p3)] := hl
  have w0 := hts (.fieldLink RX11 10 "OlderSkin" "sheets" "LOlderSkin$Sheets;") (List.mem_of_getElem? (i := 1) rfl)
  have w1 := (fun w h => List.mem_cons_of_mem _ (List.mem_append_left _ (List.mem_append_left _ (List.mem_append_right _ h))) : ∀ w ∈ u_ws RX11 TX11 12, w ∈ wsX11_side)
  have w2 := hts (.fieldLink RX11 147 "OlderSkin$Sheets" "count" "I") (List.mem_of_getElem? (i := 2) rfl)
  have w3 := (fun w h => List.mem_cons_of_mem _ (List.mem_append_left _ (List.mem_append_right _ h)) : ∀ w ∈ u_ws RX7 TX7 9, w ∈ wsX11_side)
  have w4 := hts (.fieldLink RX11 19 "OlderSkin" "orders" "LOlderSkin$Orders;") (List.mem_of_getElem? (i := 3) rfl)
  have l0 : (10 : Int32).toInt = 10 := by decide
  have l1 : (0 : Int32).toInt = 0 := by decide
  have l2 : ((-1) : Int32).toInt = -1 := by decide
  have l3 : (6 : Int32).toInt = 6 := by decide
  have l4 : (1 : Int32).toInt = 1 := by decide
  have l5 : ((-2) : Int32).toInt = -2 := by decide
  have l6 : ((-4) : Int32).toInt = -4 := by decide
  have i1 : 0 ≤ v7_count.toInt ∧ v7_count.toInt ≤ 8 := i1
  refine lv_iload_n hx hb dX11_side_0 rfl (lv_at hl 2 rfl) ?_
  refine lv_bipush (v := 10) hx hb dX11_side_1 (by decide) ?_
  refine lv_idiv hx hb dX11_side_3 (by decide) ?_
  refine lv_topi (fun x1 e2 => ?_)
  have h3 := ci_divL (n := 10) (by decide) (by decide) e2
  refine lv_istore (lv' := [(4, .int x1), (0, .ref a11), (1, .int p1), (2, .int p2), (3, .int p3)]) hx hb dX11_side_4 hl (by decide) rfl (fun ls hl => ?_)
  refine lv_iload_n hx hb dX11_side_6 rfl (lv_at hl 3 rfl) ?_
  refine lv_bipush (v := 10) hx hb dX11_side_7 (by decide) ?_
  refine lv_irem hx hb dX11_side_9 (by decide) ?_
  refine lv_topi (fun x4 e5 => ?_)
  have h6 := ci_remL (n := 10) (by decide) (by decide) e5
  refine lv_istore (lv' := [(5, .int x4), (4, .int x1), (0, .ref a11), (1, .int p1), (2, .int p2), (3, .int p3)]) hx hb dX11_side_10 hl (by decide) rfl (fun ls hl => ?_)
  refine lv_iload_n hx hb dX11_side_12 rfl (lv_at hl 3 rfl) ?_
  refine kcm_i hA hAB hP hD hS [false, false, false, false, false, false, false, false, false, false, false] rfl (fun _ => rfl) (fun hPc hDc => va_runS (As := [.int p1]) (rest := []) ⟨hx, hb, hml, hown, hts⟩ (k_X11_isSlack l D κ β s.heap.size p1) (va_cwS 1 hts gX11_side_X11_isSlack rfl rfl rfl (by decide +kernel) ⟨Nat.le_of_ble_eq_true rfl, Nat.le_of_ble_eq_true rfl⟩) (pk_S hK hS hAB hPc hDc) rfl rfl hl.1 rfl (lv_room (Nat.le_of_ble_eq_true rfl)) dX11_side_13 ⟨Nat.le_of_ble_eq_true rfl, Nat.le_of_ble_eq_true rfl⟩) (fun x7 u8 H locs hw hPD hS => ?_)
  have h9 : (x7.toInt = 1 ∧ 0 ≤ p1.toInt ∧ p1.toInt ≤ 99) ∨ (x7.toInt = 0 ∧ (p1.toInt < 0 ∨ 99 < p1.toInt)) := hw
  obtain ⟨hP, hD⟩ : PD D A [O11 a11 a7 a5 a3 a2 a6 a4 a10 a9 a1 a0 a8 aN, O7 a7 r7 v7_count v7_holes v7_worms, (cI κ (r7 2) 40 f7_sheetOf), (cI κ (r7 3) 40 f7_placeOf), (cI κ (r7 4) 40 f7_byPlace), (cI κ (r7 6) 40 f7_wormOf), (cI κ (r7 7) 40 f7_wormSheets), O5 a5 r5 v5_all, (cI κ (r5 1) 256 f5_mayFollow), (cI κ (r5 2) 256 f5_waysTo), (cI κ (r5 3) 256 f5_waysOn)] H := hPD
  refine lv_if_eq (tgt := 57) hx hb dX11_side_16 (by decide) (fun c10 => ?_) (fun c10 => ?_)
  · have c10 := ci_eq c10
    refine lv_iconst (v := (-1)) hx hb dX11_side_57 (by decide) ?_
    have hpo : (0 ≤ v7_worms.toInt ∧ v7_worms.toInt ≤ 40) ∧ (∀ j : Nat, 0 ≤ (f7_wormOf j).toInt ∧ (f7_wormOf j).toInt ≤ 39) ∧ (0 ≤ v5_all.toInt ∧ v5_all.toInt ≤ 255) := ⟨i3, hf7_wormOf, i4⟩
    exact ret _ _ _ _ (-1) (v7_worms, f7_wormOf, f7_wormSheets, v5_all, f5_mayFollow, f5_waysTo, f5_waysOn) dX11_side_58 hpo hP hD hS
  have c10 := ci_ne c10
  refine lv_aload_n hx hb dX11_side_19 rfl (lv_at hl 2 rfl) ?_
  refine va_get (D := D) (ci := 11) (v := .ref a7) (C := RX11) (T := TX11) (N := 12) hx hb hts w1 hown hK.1 hP 0 rfl rfl 0 (by decide) w0 (fun _ h9 => h9) rfl dX11_side_20 ?_
  refine lv_iload hx hb dX11_side_23 (lv_at hl 1 rfl) ?_
  refine kcm_i hA hAB hP hD hS [false, true, false, false, false, false, false, false, false, false, false] rfl (fun _ => rfl) (fun hPc hDc => va_runV (As := [.int x1]) (rest := []) ⟨hx, hb, hml, hown, hts⟩ (k_X7_isSheet l D κ β a7 r7 v7_count v7_holes v7_worms H.size x1 i1 i2 i3) (cwV 1 hts gX11_side_X7_isSheet rfl rfl rfl (by decide +kernel) ⟨Nat.le_of_ble_eq_true rfl, Nat.le_of_ble_eq_true rfl⟩) (pk_V hK hS hAB hPc hDc 0 (ci := 7) rfl rfl rfl) rfl rfl hl.1 rfl (lv_room (Nat.le_of_ble_eq_true rfl)) dX11_side_25 ⟨Nat.le_of_ble_eq_true rfl, Nat.le_of_ble_eq_true rfl⟩) (fun x11 u12 H locs hw hPD hS => ?_)
  have h13 : (x11.toInt = 1 ∧ 0 ≤ x1.toInt ∧ x1.toInt < v7_count.toInt) ∨ (x11.toInt = 0 ∧ (x1.toInt < 0 ∨ v7_count.toInt ≤ x1.toInt)) := hw
  obtain ⟨hP, hD⟩ : PD D A [O11 a11 a7 a5 a3 a2 a6 a4 a10 a9 a1 a0 a8 aN, O7 a7 r7 v7_count v7_holes v7_worms, (cI κ (r7 2) 40 f7_sheetOf), (cI κ (r7 3) 40 f7_placeOf), (cI κ (r7 4) 40 f7_byPlace), (cI κ (r7 6) 40 f7_wormOf), (cI κ (r7 7) 40 f7_wormSheets), O5 a5 r5 v5_all, (cI κ (r5 1) 256 f5_mayFollow), (cI κ (r5 2) 256 f5_waysTo), (cI κ (r5 3) 256 f5_waysOn)] H := hPD
  refine lv_if_eq (tgt := 57) hx hb dX11_side_28 (by decide) (fun c14 => ?_) (fun c14 => ?_)
  · have c14 := ci_eq c14
    refine lv_iconst (v := (-1)) hx hb dX11_side_57 (by decide) ?_
    have hpo : (0 ≤ v7_worms.toInt ∧ v7_worms.toInt ≤ 40) ∧ (∀ j : Nat, 0 ≤ (f7_wormOf j).toInt ∧ (f7_wormOf j).toInt ≤ 39) ∧ (0 ≤ v5_all.toInt ∧ v5_all.toInt ≤ 255) := ⟨i3, hf7_wormOf, i4⟩
    exact ret _ _ _ _ (-1) (v7_worms, f7_wormOf, f7_wormSheets, v5_all, f5_mayFollow, f5_waysTo, f5_waysOn) dX11_side_58 hpo hP hD hS
  have c14 := ci_ne c14
  refine lv_aload_n hx hb dX11_side_31 rfl (lv_at hl 2 rfl) ?_
  refine va_get (D := D) (ci := 11) (v := .ref a7) (C := RX11) (T := TX11) (N := 12) hx hb hts w1 hown hK.1 hP 0 rfl rfl 0 (by decide) w0 (fun _ h9 => h9) rfl dX11_side_32 ?_
  refine lv_iload hx hb dX11_side_35 (lv_at hl 0 rfl) ?_
  refine kcm_i hA hAB hP hD hS [false, true, false, false, false, false, false, false, false, false, false] rfl (fun _ => rfl) (fun hPc hDc => va_runV (As := [.int x4]) (rest := []) ⟨hx, hb, hml, hown, hts⟩ (k_X7_isSheet l D κ β a7 r7 v7_count v7_holes v7_worms H.size x4 i1 i2 i3) (cwV 1 hts gX11_side_X7_isSheet rfl rfl rfl (by decide +kernel) ⟨Nat.le_of_ble_eq_true rfl, Nat.le_of_ble_eq_true rfl⟩) (pk_V hK hS hAB hPc hDc 0 (ci := 7) rfl rfl rfl) rfl rfl hl.1 rfl (lv_room (Nat.le_of_ble_eq_true rfl)) dX11_side_37 ⟨Nat.le_of_ble_eq_true rfl, Nat.le_of_ble_eq_true rfl⟩) (fun x15 u16 H locs hw hPD hS => ?_)
  have h17 : (x15.toInt = 1 ∧ 0 ≤ x4.toInt ∧ x4.toInt < v7_count.toInt) ∨ (x15.toInt = 0 ∧ (x4.toInt < 0 ∨ v7_count.toInt ≤ x4.toInt)) := hw
  obtain ⟨hP, hD⟩ : PD D A [O11 a11 a7 a5 a3 a2 a6 a4 a10 a9 a1 a0 a8 aN, O7 a7 r7 v7_count v7_holes v7_worms, (cI κ (r7 2) 40 f7_sheetOf), (cI κ (r7 3) 40 f7_placeOf), (cI κ (r7 4) 40 f7_byPlace), (cI κ (r7 6) 40 f7_wormOf), (cI κ (r7 7) 40 f7_wormSheets), O5 a5 r5 v5_all, (cI κ (r5 1) 256 f5_mayFollow), (cI κ (r5 2) 256 f5_waysTo), (cI κ (r5 3) 256 f5_waysOn)] H := hPD
  refine lv_if_eq (tgt := 57) hx hb dX11_side_40 (by decide) (fun c18 => ?_) (fun c18 => ?_)
  · have c18 := ci_eq c18
    refine lv_iconst (v := (-1)) hx hb dX11_side_57 (by decide) ?_
    have hpo : (0 ≤ v7_worms.toInt ∧ v7_worms.toInt ≤ 40) ∧ (∀ j : Nat, 0 ≤ (f7_wormOf j).toInt ∧ (f7_wormOf j).toInt ≤ 39) ∧ (0 ≤ v5_all.toInt ∧ v5_all.toInt ≤ 255) := ⟨i3, hf7_wormOf, i4⟩
    exact ret _ _ _ _ (-1) (v7_worms, f7_wormOf, f7_wormSheets, v5_all, f5_mayFollow, f5_waysTo, f5_waysOn) dX11_side_58 hpo hP hD hS
  have c18 := ci_ne c18
  refine lv_iload hx hb dX11_side_43 (lv_at hl 1 rfl) ?_
  refine lv_iload hx hb dX11_side_45 (lv_at hl 0 rfl) ?_
  refine lv_icmp_eq (tgt := 57) hx hb dX11_side_47 (by decide) (fun c19 => ?_) (fun c19 => ?_)
  · have c19 := ci_eq c19
    refine lv_iconst (v := (-1)) hx hb dX11_side_57 (by decide) ?_
    have hpo : (0 ≤ v7_worms.toInt ∧ v7_worms.toInt ≤ 40) ∧ (∀ j : Nat, 0 ≤ (f7_wormOf j).toInt ∧ (f7_wormOf j).toInt ≤ 39) ∧ (0 ≤ v5_all.toInt ∧ v5_all.toInt ≤ 255) := ⟨i3, hf7_wormOf, i4⟩
    exact ret _ _ _ _ (-1) (v7_worms, f7_wormOf, f7_wormSheets, v5_all, f5_mayFollow, f5_waysTo, f5_waysOn) dX11_side_58 hpo hP hD hS
  have c19 := ci_ne c19
  refine lv_iload_n hx hb dX11_side_50 rfl (lv_at hl 5 rfl) ?_
  refine kcm_i hA hAB hP hD hS [false, false, false, false, false, false, false, false, false, false, false] rfl (fun _ => rfl) (fun hPc hDc => va_runS (As := [.int p3]) (rest := []) ⟨hx, hb, hml, hown, hts⟩ (k_X11_isBit l D κ β H.size p3) (va_cwS 1 hts gX11_side_X11_isBit rfl rfl rfl (by decide +kernel) ⟨Nat.le_of_ble_eq_true rfl, Nat.le_of_ble_eq_true rfl⟩) (pk_S hK hS hAB hPc hDc) rfl rfl hl.1 rfl (lv_room (Nat.le_of_ble_eq_true rfl)) dX11_side_51 ⟨Nat.le_of_ble_eq_true rfl, Nat.le_of_ble_eq_true rfl⟩) (fun x20 u21 H locs hw hPD hS => ?_)
  have h22 : (x20.toInt = 1 ∧ 0 ≤ p3.toInt ∧ p3.toInt ≤ 1) ∨ (x20.toInt = 0 ∧ (p3.toInt < 0 ∨ 1 < p3.toInt)) := hw
  obtain ⟨hP, hD⟩ : PD D A [O11 a11 a7 a5 a3 a2 a6 a4 a10 a9 a1 a0 a8 aN, O7 a7 r7 v7_count v7_holes v7_worms, (cI κ (r7 2) 40 f7_sheetOf), (cI κ (r7 3) 40 f7_placeOf), (cI κ (r7 4) 40 f7_byPlace), (cI κ (r7 6) 40 f7_wormOf), (cI κ (r7 7) 40 f7_wormSheets), O5 a5 r5 v5_all, (cI κ (r5 1) 256 f5_mayFollow), (cI κ (r5 2) 256 f5_waysTo), (cI κ (r5 3) 256 f5_waysOn)] H := hPD
  refine lv_if_ne (tgt := 59) hx hb dX11_side_54 (by decide) (fun c23 => ?_) (fun c23 => ?_)
  · have c23 := ci_ne c23
    refine lv_aload_n hx hb dX11_side_59 rfl (lv_at hl 2 rfl) ?_
    refine va_get (D := D) (ci := 11) (v := .ref a7) (C := RX11) (T := TX11) (N := 12) hx hb hts w1 hown hK.1 hP 0 rfl rfl 0 (by decide) w0 (fun _ h9 => h9) rfl dX11_side_60 ?_
    refine va_get (D := D) (ci := 7) (v := .int v7_count) (C := RX7) (T := TX7) (N := 9) hx hb hts w3 hown hK.1 hP 1 rfl rfl 1 (by decide) w2 (fun _ h9 => h9) rfl dX11_side_63 ?_
    refine lv_bipush (v := 6) hx hb dX11_side_66 (by decide) ?_
    refine lv_icmp_le (tgt := 74) hx hb dX11_side_68 (by decide) (fun c24 => ?_) (fun c24 => ?_)
    · have c24 := ci_le c24
      refine lv_aload_n hx hb dX11_side_74 rfl (lv_at hl 2 rfl) ?_
      refine lv_iload_n hx hb dX11_side_75 rfl (lv_at hl 3 rfl) ?_
      refine lv_aload_n hx hb dX11_side_76 rfl (lv_at hl 2 rfl) ?_
      refine va_get (D := D) (ci := 11) (v := .ref a7) (C := RX11) (T := TX11) (N := 12) hx hb hts w1 hown hK.1 hP 0 rfl rfl 0 (by decide) w0 (fun _ h9 => h9) rfl dX11_side_77 ?_
      refine kcm_i hA hAB hP hD hS [false, true, false, false, false, false, false, false, false, false, false] rfl (fun _ => rfl) (fun hPc hDc => va_runV (As := []) (rest := [.int p1, .ref a11]) ⟨hx, hb, hml, hown, hts⟩ (k_X7_all l D κ β a7 r7 v7_count v7_holes v7_worms H.size i1 i2 i3) (cwV 0 hts gX11_side_X7_all rfl rfl rfl (by decide +kernel) ⟨Nat.le_of_ble_eq_true rfl, Nat.le_of_ble_eq_true rfl⟩) (pk_V hK hS hAB hPc hDc 0 (ci := 7) rfl rfl rfl) rfl rfl hl.1 rfl (lv_room (Nat.le_of_ble_eq_true rfl)) dX11_side_80 ⟨Nat.le_of_ble_eq_true rfl, Nat.le_of_ble_eq_true rfl⟩) (fun x25 u26 H locs hw hPD hS => ?_)
      have h27 : 0 ≤ x25.toInt ∧ x25.toInt ≤ 255 := hw
      obtain ⟨hP, hD⟩ : PD D A [O11 a11 a7 a5 a3 a2 a6 a4 a10 a9 a1 a0 a8 aN, O7 a7 r7 v7_count v7_holes v7_worms, (cI κ (r7 2) 40 f7_sheetOf), (cI κ (r7 3) 40 f7_placeOf), (cI κ (r7 4) 40 f7_byPlace), (cI κ (r7 6) 40 f7_wormOf), (cI κ (r7 7) 40 f7_wormSheets), O5 a5 r5 v5_all, (cI κ (r5 1) 256 f5_mayFollow), (cI κ (r5 2) 256 f5_waysTo), (cI κ (r5 3) 256 f5_waysOn)] H := hPD
      refine kcm_v hA hAB hP hD hS [true, true, true, true, true, true, true, true, true, true, true] rfl (fun _ => rfl) (fun hPc hDc => va_runV (As := [.int p1, .int x25]) (rest := []) ⟨hx, hb, hml, hown, hts⟩ (k_X11_findOrders l D κ β a11 a7 a5 a3 a2 a6 a4 a10 a9 a1 a0 a8 aN r7 r5 v7_count v7_holes v7_worms f7_sheetOf f7_placeOf f7_byPlace f7_wormOf f7_wormSheets v5_all f5_mayFollow f5_waysTo f5_waysOn H.size p1 x25 i1 i2 i3 hf7_sheetOf hf7_byPlace hf7_wormOf i4 (by omega)) (cwV 2 hts gX11_side_X11_findOrders rfl rfl rfl (by decide +kernel) ⟨Nat.le_of_ble_eq_true rfl, Nat.le_of_ble_eq_true rfl⟩) (pk_V hK hS hAB hPc hDc 0 (ci := 11) rfl rfl rfl) rfl rfl hl.1 rfl (lv_room (Nat.le_of_ble_eq_true rfl)) dX11_side_83 ⟨Nat.le_of_ble_eq_true rfl, Nat.le_of_ble_eq_true rfl⟩) (fun u35 H locs hw hPD hS => ?_)
      obtain ⟨x28, g29, g30, x31, g32, g33, g34⟩ := u35
      obtain ⟨h36, h37, h38⟩ : (Rg 0 40 x28) ∧ (∀ j : Nat, 0 ≤ (g29 j).toInt ∧ (g29 j).toInt ≤ 39) ∧ (Rg 0 255 x31) := hw
      obtain ⟨hP, hD⟩ : PD D A [O11 a11 a7 a5 a3 a2 a6 a4 a10 a9 a1 a0 a8 aN, O7 a7 r7 v7_count v7_holes x28, (cI κ (r7 2) 40 f7_sheetOf), (cI κ (r7 3) 40 f7_placeOf), (cI κ (r7 4) 40 f7_byPlace), (cI κ (r7 6) 40 g29), (cI κ (r7 7) 40 g30), O5 a5 r5 x31, (cI κ (r5 1) 256 g32), (cI κ (r5 2) 256 g33), (cI κ (r5 3) 256 g34)] H := hPD
      refine lv_aload_n hx hb dX11_side_86 rfl (lv_at hl 2 rfl) ?_
      refine va_get (D := D) (ci := 11) (v := .ref a5) (C := RX11) (T := TX11) (N := 12) hx hb hts w1 hown hK.1 hP 0 rfl rfl 1 (by decide) w4 (fun _ h9 => h9) rfl dX11_side_87 ?_
      refine kcm_i hA hAB hP hD hS [false, false, false, false, false, false, false, true, false, false, true] rfl (fun _ => rfl) (fun hPc hDc => va_runV (As := []) (rest := []) ⟨hx, hb, hml, hown, hts⟩ (k_X5_howMany l D κ β a5 r5 x31 g34 H.size h38) (cwV 0 hts gX11_side_X5_howMany rfl rfl rfl (by decide +kernel) ⟨Nat.le_of_ble_eq_true rfl, Nat.le_of_ble_eq_true rfl⟩) (pk_V hK hS hAB hPc hDc 0 (ci := 5) rfl rfl rfl) rfl rfl hl.1 rfl (lv_room (Nat.le_of_ble_eq_true rfl)) dX11_side_90 ⟨Nat.le_of_ble_eq_true rfl, Nat.le_of_ble_eq_true rfl⟩) (fun x39 u40 H locs hw hPD hS => ?_)
      obtain ⟨hP, hD⟩ : PD D A [O11 a11 a7 a5 a3 a2 a6 a4 a10 a9 a1 a0 a8 aN, O7 a7 r7 v7_count v7_holes x28, (cI κ (r7 2) 40 f7_sheetOf), (cI κ (r7 3) 40 f7_placeOf), (cI κ (r7 4) 40 f7_byPlace), (cI κ (r7 6) 40 g29), (cI κ (r7 7) 40 g30), O5 a5 r5 x31, (cI κ (r5 1) 256 g32), (cI κ (r5 2) 256 g33), (cI κ (r5 3) 256 g34)] H := hPD
      refine lv_istore (lv' := [(6, .int x39), (5, .int x4), (4, .int x1), (0, .ref a11), (1, .int p1), (2, .int p2), (3, .int p3)]) hx hb dX11_side_93 hl (by decide) rfl (fun ls hl => ?_)
      refine lv_iload hx hb dX11_side_95 (lv_at hl 0 rfl) ?_
      refine lv_if_ne (tgt := 103) hx hb dX11_side_97 (by decide) (fun c41 => ?_) (fun c41 => ?_)
      · have c41 := ci_ne c41
        refine lv_aload_n hx hb dX11_side_103 rfl (lv_at hl 3 rfl) ?_
        refine va_get (D := D) (ci := 11) (v := .ref a5) (C := RX11) (T := TX11) (N := 12) hx hb hts w1 hown hK.1 hP 0 rfl rfl 1 (by decide) w4 (fun _ h9 => h9) rfl dX11_side_104 ?_
        refine lv_iload hx hb dX11_side_107 (lv_at hl 2 rfl) ?_
        refine lv_iload hx hb dX11_side_109 (lv_at hl 1 rfl) ?_
        refine kcm_i hA hAB hP hD hS [false, false, false, false, false, false, false, true, true, true, true] rfl (fun _ => rfl) (fun hPc hDc => va_runV (As := [.int x1, .int x4]) (rest := []) ⟨hx, hb, hml, hown, hts⟩ (k_X5_sideBySide l D κ β a5 r5 x31 g32 g33 g34 H.size x1 x4 h38 (by omega) (by omega)) (cwV 2 hts gX11_side_X5_sideBySide rfl rfl rfl (by decide +kernel) ⟨Nat.le_of_ble_eq_true rfl, Nat.le_of_ble_eq_true rfl⟩) (pk_V hK hS hAB hPc hDc 0 (ci := 5) rfl rfl rfl) rfl rfl hl.1 rfl (lv_room (Nat.le_of_ble_eq_true rfl)) dX11_side_111 ⟨Nat.le_of_ble_eq_true rfl, Nat.le_of_ble_eq_true rfl⟩) (fun x42 u43 H locs hw hPD hS => ?_)
        obtain ⟨hP, hD⟩ : PD D A [O11 a11 a7 a5 a3 a2 a6 a4 a10 a9 a1 a0 a8 aN, O7 a7 r7 v7_count v7_holes x28, (cI κ (r7 2) 40 f7_sheetOf), (cI κ (r7 3) 40 f7_placeOf), (cI κ (r7 4) 40 f7_byPlace), (cI κ (r7 6) 40 g29), (cI κ (r7 7) 40 g30), O5 a5 r5 x31, (cI κ (r5 1) 256 g32), (cI κ (r5 2) 256 g33), (cI κ (r5 3) 256 g34)] H := hPD
        refine lv_istore (lv' := [(7, .int x42), (6, .int x39), (5, .int x4), (4, .int x1), (0, .ref a11), (1, .int p1), (2, .int p2), (3, .int p3)]) hx hb dX11_side_114 hl (by decide) rfl (fun ls hl => ?_)
        refine lv_iload_n hx hb dX11_side_116 rfl (lv_at hl 7 rfl) ?_
        refine lv_if_ne (tgt := 135) hx hb dX11_side_117 (by decide) (fun c44 => ?_) (fun c44 => ?_)
        · have c44 := ci_ne c44
          refine lv_iload hx hb dX11_side_135 (lv_at hl 0 rfl) ?_
          refine lv_if_le (tgt := 144) hx hb dX11_side_137 (by decide) (fun c45 => ?_) (fun c45 => ?_)
          · have c45 := ci_le c45
            refine lv_iconst (v := 0) hx hb dX11_side_144 (by decide) ?_
            refine kcm_i hA hAB hP hD hS [false, false, false, false, false, false, false, false, false, false, false] rfl (fun _ => rfl) (fun hPc hDc => va_runS (As := [.int 0]) (rest := []) ⟨hx, hb, hml, hown, hts⟩ (k_X11_asBit l D κ β H.size 0) (va_cwS 1 hts gX11_side_X11_asBit rfl rfl rfl (by decide +kernel) ⟨Nat.le_of_ble_eq_true rfl, Nat.le_of_ble_eq_true rfl⟩) (pk_S hK hS hAB hPc hDc) rfl rfl hl.1 rfl (lv_room (Nat.le_of_ble_eq_true rfl)) dX11_side_145 ⟨Nat.le_of_ble_eq_true rfl, Nat.le_of_ble_eq_true rfl⟩) (fun x46 u47 H locs hw hPD hS => ?_)
            have h48 : (x46.toInt = 1 ∧ (0 : Int32).toInt ≠ 0) ∨ (x46.toInt = 0 ∧ (0 : Int32).toInt = 0) := hw
            obtain ⟨hP, hD⟩ : PD D A [O11 a11 a7 a5 a3 a2 a6 a4 a10 a9 a1 a0 a8 aN, O7 a7 r7 v7_count v7_holes x28, (cI κ (r7 2) 40 f7_sheetOf), (cI κ (r7 3) 40 f7_placeOf), (cI κ (r7 4) 40 f7_byPlace), (cI κ (r7 6) 40 g29), (cI κ (r7 7) 40 g30), O5 a5 r5 x31, (cI κ (r5 1) 256 g32), (cI κ (r5 2) 256 g33), (cI κ (r5 3) 256 g34)] H := hPD
            have hpo : (0 ≤ x28.toInt ∧ x28.toInt ≤ 40) ∧ (∀ j : Nat, 0 ≤ (g29 j).toInt ∧ (g29 j).toInt ≤ 39) ∧ (0 ≤ x31.toInt ∧ x31.toInt ≤ 255) := ⟨h36, h37, h38⟩
            exact ret _ _ _ _ x46 (x28, g29, g30, x31, g32, g33, g34) dX11_side_148 hpo hP hD hS
          have c45 := ci_nle c45
          refine lv_iconst (v := 1) hx hb dX11_side_140 (by decide) ?_
          refine lv_goto (tgt := 145) hx hb dX11_side_141 (by decide) ?_
          refine kcm_i hA hAB hP hD hS [false, false, false, false, false, false, false, false, false, false, false] rfl (fun _ => rfl) (fun hPc hDc => va_runS (As := [.int 1]) (rest := []) ⟨hx, hb, hml, hown, hts⟩ (k_X11_asBit l D κ β H.size 1) (va_cwS 1 hts gX11_side_X11_asBit rfl rfl rfl (by decide +kernel) ⟨Nat.le_of_ble_eq_true rfl, Nat.le_of_ble_eq_true rfl⟩) (pk_S hK hS hAB hPc hDc) rfl rfl hl.1 rfl (lv_room (Nat.le_of_ble_eq_true rfl)) dX11_side_145 ⟨Nat.le_of_ble_eq_true rfl, Nat.le_of_ble_eq_true rfl⟩) (fun x49 u50 H locs hw hPD hS => ?_)
          have h51 : (x49.toInt = 1 ∧ (1 : Int32).toInt ≠ 0) ∨ (x49.toInt = 0 ∧ (1 : Int32).toInt = 0) := hw
          obtain ⟨hP, hD⟩ : PD D A [O11 a11 a7 a5 a3 a2 a6 a4 a10 a9 a1 a0 a8 aN, O7 a7 r7 v7_count v7_holes x28, (cI κ (r7 2) 40 f7_sheetOf), (cI κ (r7 3) 40 f7_placeOf), (cI κ (r7 4) 40 f7_byPlace), (cI κ (r7 6) 40 g29), (cI κ (r7 7) 40 g30), O5 a5 r5 x31, (cI κ (r5 1) 256 g32), (cI κ (r5 2) 256 g33), (cI κ (r5 3) 256 g34)] H := hPD
          have hpo : (0 ≤ x28.toInt ∧ x28.toInt ≤ 40) ∧ (∀ j : Nat, 0 ≤ (g29 j).toInt ∧ (g29 j).toInt ≤ 39) ∧ (0 ≤ x31.toInt ∧ x31.toInt ≤ 255) := ⟨h36, h37, h38⟩
          exact ret _ _ _ _ x49 (x28, g29, g30, x31, g32, g33, g34) dX11_side_148 hpo hP hD hS
        have c44 := ci_eq c44
        refine lv_iload hx hb dX11_side_120 (lv_at hl 0 rfl) ?_
        refine lv_iload hx hb dX11_side_122 (lv_at hl 1 rfl) ?_
        refine lv_icmp_ne (tgt := 131) hx hb dX11_side_124 (by decide) (fun c52 => ?_) (fun c52 => ?_)
        · have c52 := ci_ne c52
          refine lv_iconst (v := 0) hx hb dX11_side_131 (by decide) ?_
          refine lv_goto (tgt := 145) hx hb dX11_side_132 (by decide) ?_
          refine kcm_i hA hAB hP hD hS [false, false, false, false, false, false, false, false, false, false, false] rfl (fun _ => rfl) (fun hPc hDc => va_runS (As := [.int 0]) (rest := []) ⟨hx, hb, hml, hown, hts⟩ (k_X11_asBit l D κ β H.size 0) (va_cwS 1 hts gX11_side_X11_asBit rfl rfl rfl (by decide +kernel) ⟨Nat.le_of_ble_eq_true rfl, Nat.le_of_ble_eq_true rfl⟩) (pk_S hK hS hAB hPc hDc) rfl rfl hl.1 rfl (lv_room (Nat.le_of_ble_eq_true rfl)) dX11_side_145 ⟨Nat.le_of_ble_eq_true rfl, Nat.le_of_ble_eq_true rfl⟩) (fun x53 u54 H locs hw hPD hS => ?_)
          have h55 : (x53.toInt = 1 ∧ (0 : Int32).toInt ≠ 0) ∨ (x53.toInt = 0 ∧ (0 : Int32).toInt = 0) := hw
          obtain ⟨hP, hD⟩ : PD D A [O11 a11 a7 a5 a3 a2 a6 a4 a10 a9 a1 a0 a8 aN, O7 a7 r7 v7_count v7_holes x28, (cI κ (r7 2) 40 f7_sheetOf), (cI κ (r7 3) 40 f7_placeOf), (cI κ (r7 4) 40 f7_byPlace), (cI κ (r7 6) 40 g29), (cI κ (r7 7) 40 g30), O5 a5 r5 x31, (cI κ (r5 1) 256 g32), (cI κ (r5 2) 256 g33), (cI κ (r5 3) 256 g34)] H := hPD
          have hpo : (0 ≤ x28.toInt ∧ x28.toInt ≤ 40) ∧ (∀ j : Nat, 0 ≤ (g29 j).toInt ∧ (g29 j).toInt ≤ 39) ∧ (0 ≤ x31.toInt ∧ x31.toInt ≤ 255) := ⟨h36, h37, h38⟩
          exact ret _ _ _ _ x53 (x28, g29, g30, x31, g32, g33, g34) dX11_side_148 hpo hP hD hS
        have c52 := ci_eq c52
        refine lv_iconst (v := 1) hx hb dX11_side_127 (by decide) ?_
        refine lv_goto (tgt := 145) hx hb dX11_side_128 (by decide) ?_
        refine kcm_i hA hAB hP hD hS [false, false, false, false, false, false, false, false, false, false, false] rfl (fun _ => rfl) (fun hPc hDc => va_runS (As := [.int 1]) (rest := []) ⟨hx, hb, hml, hown, hts⟩ (k_X11_asBit l D κ β H.size 1) (va_cwS 1 hts gX11_side_X11_asBit rfl rfl rfl (by decide +kernel) ⟨Nat.le_of_ble_eq_true rfl, Nat.le_of_ble_eq_true rfl⟩) (pk_S hK hS hAB hPc hDc) rfl rfl hl.1 rfl (lv_room (Nat.le_of_ble_eq_true rfl)) dX11_side_145 ⟨Nat.le_of_ble_eq_true rfl, Nat.le_of_ble_eq_true rfl⟩) (fun x56 u57 H locs hw hPD hS => ?_)
        have h58 : (x56.toInt = 1 ∧ (1 : Int32).toInt ≠ 0) ∨ (x56.toInt = 0 ∧ (1 : Int32).toInt = 0) := hw
        obtain ⟨hP, hD⟩ : PD D A [O11 a11 a7 a5 a3 a2 a6 a4 a10 a9 a1 a0 a8 aN, O7 a7 r7 v7_count v7_holes x28, (cI κ (r7 2) 40 f7_sheetOf), (cI κ (r7 3) 40 f7_placeOf), (cI κ (r7 4) 40 f7_byPlace), (cI κ (r7 6) 40 g29), (cI κ (r7 7) 40 g30), O5 a5 r5 x31, (cI κ (r5 1) 256 g32), (cI κ (r5 2) 256 g33), (cI κ (r5 3) 256 g34)] H := hPD
        have hpo : (0 ≤ x28.toInt ∧ x28.toInt ≤ 40) ∧ (∀ j : Nat, 0 ≤ (g29 j).toInt ∧ (g29 j).toInt ≤ 39) ∧ (0 ≤ x31.toInt ∧ x31.toInt ≤ 255) := ⟨h36, h37, h38⟩
        exact ret _ _ _ _ x56 (x28, g29, g30, x31, g32, g33, g34) dX11_side_148 hpo hP hD hS
      have c41 := ci_eq c41
      refine lv_bipush (v := (-2)) hx hb dX11_side_100 (by decide) ?_
      have hpo : (0 ≤ x28.toInt ∧ x28.toInt ≤ 40) ∧ (∀ j : Nat, 0 ≤ (g29 j).toInt ∧ (g29 j).toInt ≤ 39) ∧ (0 ≤ x31.toInt ∧ x31.toInt ≤ 255) := ⟨h36, h37, h38⟩
      exact ret _ _ _ _ (-2) (x28, g29, g30, x31, g32, g33, g34) dX11_side_102 hpo hP hD hS
    have c24 := ci_nle c24
    refine lv_bipush (v := (-4)) hx hb dX11_side_71 (by decide) ?_
    have hpo : (0 ≤ v7_worms.toInt ∧ v7_worms.toInt ≤ 40) ∧ (∀ j : Nat, 0 ≤ (f7_wormOf j).toInt ∧ (f7_wormOf j).toInt ≤ 39) ∧ (0 ≤ v5_all.toInt ∧ v5_all.toInt ≤ 255) := ⟨i3, hf7_wormOf, i4⟩
    exact ret _ _ _ _ (-4) (v7_worms, f7_wormOf, f7_wormSheets, v5_all, f5_mayFollow, f5_waysTo, f5_waysOn) dX11_side_73 hpo hP hD hS
  have c23 := ci_eq c23
  refine lv_iconst (v := (-1)) hx hb dX11_side_57 (by decide) ?_
  have hpo : (0 ≤ v7_worms.toInt ∧ v7_worms.toInt ≤ 40) ∧ (∀ j : Nat, 0 ≤ (f7_wormOf j).toInt ∧ (f7_wormOf j).toInt ≤ 39) ∧ (0 ≤ v5_all.toInt ∧ v5_all.toInt ≤ 255) := ⟨i3, hf7_wormOf, i4⟩
  exact ret _ _ _ _ (-1) (v7_worms, f7_wormOf, f7_wormSheets, v5_all, f5_mayFollow, f5_waysTo, f5_waysOn) dX11_side_58 hpo hP hD hS
set_option maxHeartbeats 4000000 in
set_option maxRecDepth 100000 in
theorem k_X11_without (l : Launch) (D : va_G) (κ : Nat → ClassId) (β : Nat) (a11 : Nat) (a7 : Nat) (a5 : Nat) (a3 : Nat) (a2 : Nat) (a6 : Nat) (a4 : Nat) (a10 : Nat) (a9 : Nat) (a1 : Nat) (a0 : Nat) (a8 : Nat) (aN : Nat) (r7 : Nat → Nat) (r5 : Nat → Nat) (v7_count : Int32) (v7_holes : Int32) (v7_worms : Int32) (f7_sheetOf : Nat → Int32) (f7_placeOf : Nat → Int32) (f7_byPlace : Nat → Int32) (f7_wormOf : Nat → Int32) (f7_wormSheets : Nat → Int32) (v5_all : Int32) (f5_mayFollow : Nat → Int32) (f5_waysTo : Nat → Int32) (f5_waysOn : Nat → Int32) (sz : Nat) (p1 : Int32) (p2 : Int32) (i1 : Rg 0 8 v7_count) (i2 : Rg 0 40 v7_holes) (i3 : Rg 0 40 v7_worms) (hf7_sheetOf : ∀ j : Nat, 0 ≤ (f7_sheetOf j).toInt ∧ (f7_sheetOf j).toInt ≤ 7) (hf7_byPlace : ∀ j : Nat, 0 ≤ (f7_byPlace j).toInt ∧ (f7_byPlace j).toInt ≤ 39) (hf7_wormOf : ∀ j : Nat, 0 ≤ (f7_wormOf j).toInt ∧ (f7_wormOf j).toInt ≤ 39) (i4 : Rg 0 255 v5_all) : Met l yX11_without wsX11_without ({ frames := 4, cells := 0, slots := 0, locals := 91 } : Room) (PcK D κ β [O11 a11 a7 a5 a3 a2 a6 a4 a10 a9 a1 a0 a8 aN, O7 a7 r7 v7_count v7_holes v7_worms, (cI κ (r7 2) 40 f7_sheetOf), (cI κ (r7 3) 40 f7_placeOf), (cI κ (r7 4) 40 f7_byPlace), (cI κ (r7 6) 40 f7_wormOf), (cI κ (r7 7) 40 f7_wormSheets), O5 a5 r5 v5_all, (cI κ (r5 1) 256 f5_mayFollow), (cI κ (r5 2) 256 f5_waysTo), (cI κ (r5 3) 256 f5_waysOn)] sz [.ref a11, .int p1, .int p2]) (QiK D (fun (r : Int32) (u : Int32 × (Nat → Int32) × (Nat → Int32) × Int32 × (Nat → Int32) × (Nat → Int32) × (Nat → Int32)) => (0 ≤ u.1.toInt ∧ u.1.toInt ≤ 40) ∧ (∀ j : Nat, 0 ≤ (u.2.1 j).toInt ∧ (u.2.1 j).toInt ≤ 39) ∧ (0 ≤ u.2.2.2.1.toInt ∧ u.2.2.2.1.toInt ≤ 255)) (fun (u : Int32 × (Nat → Int32) × (Nat → Int32) × Int32 × (Nat → Int32) × (Nat → Int32) × (Nat → Int32)) => [O11 a11 a7 a5 a3 a2 a6 a4 a10 a9 a1 a0 a8 aN, O7 a7 r7 v7_count v7_holes u.1, (cI κ (r7 2) 40 f7_sheetOf), (cI κ (r7 3) 40 f7_placeOf), (cI κ (r7 4) 40 f7_byPlace), (cI κ (r7 6) 40 u.2.1), (cI κ (r7 7) 40 u.2.2.1), O5 a5 r5 u.2.2.2.1, (cI κ (r5 1) 256 u.2.2.2.2.1), (cI κ (r5 2) 256 u.2.2.2.2.2.1), (cI κ (r5 3) 256 u.2.2.2.2.2.2)]) [O11 a11 a7 a5 a3 a2 a6 a4 a10 a9 a1 a0 a8 aN, O7 a7 r7 v7_count v7_holes v7_worms, (cI κ (r7 2) 40 f7_sheetOf), (cI κ (r7 3) 40 f7_placeOf), (cI κ (r7 4) 40 f7_byPlace), (cI κ (r7 6) 40 f7_wormOf), (cI κ (r7 7) 40 f7_wormSheets), O5 a5 r5 v5_all, (cI κ (r5 1) 256 f5_mayFollow), (cI κ (r5 2) 256 f5_waysTo), (cI κ (r5 3) 256 f5_waysOn)] sz) 0 0 (va_A [O11 a11 a7 a5 a3 a2 a6 a4 a10 a9 a1 a0 a8 aN, O7 a7 r7 v7_count v7_holes v7_worms, (cI κ (r7 2) 40 f7_sheetOf), (cI κ (r7 3) 40 f7_placeOf), (cI κ (r7 4) 40 f7_byPlace), (cI κ (r7 6) 40 f7_wormOf), (cI κ (r7 7) 40 f7_wormSheets), O5 a5 r5 v5_all, (cI κ (r5 1) 256 f5_mayFollow), (cI κ (r5 2) 256 f5_waysTo), (cI κ (r5 3) 256 f5_waysOn)] sz) := by
  refine ofK_i (cc := cX11_without) (maxL := 3) (own := RX11) (by decide) rfl rfl (Nat.le_of_ble_eq_true rfl) ?_
  intro p e s m args below meth c Q A ls hsz hx hb hml hts hown hK hA hAB hP hD hl ret
  have hS : va_S A s.heap s.heap [] := va_S.rf
  have hl : lv_has ls 3 [(0, .ref a11), (1, .int p1), (2, .int p2)] := hl
  have w0 := hts (.fieldLink RX11 10 "OlderSkin" "sheets" "LOlderSkin$Sheets;") (List.mem_of_getElem? (i := 1) rfl)
  have w1 := (fun w h => List.mem_cons_of_mem _ (List.mem_append_left _ (List.mem_append_left _ (List.mem_append_right _ h))) : ∀ w ∈ u_ws RX11 TX11 12, w ∈ wsX11_without)
  have w2 := hts (.fieldLink RX11 147 "OlderSkin$Sheets" "count" "I") (List.mem_of_getElem? (i := 2) rfl)
  have w3 := (fun w h => List.mem_cons_of_mem _ (List.mem_append_left _ (List.mem_append_right _ h)) : ∀ w ∈ u_ws RX7 TX7 9, w ∈ wsX11_without)
  have w4 := hts (.fieldLink RX11 19 "OlderSkin" "orders" "LOlderSkin$Orders;") (List.mem_of_getElem? (i := 3) rfl)
  have l0 : (0 : Int32).toInt = 0 := by decide
  have l1 : ((-1) : Int32).toInt = -1 := by decide
  have l2 : (1 : Int32).toInt = 1 := by decide
  have l3 : (6 : Int32).toInt = 6 := by decide
  have l4 : ((-4) : Int32).toInt = -4 := by decide
  have i1 : 0 ≤ v7_count.toInt ∧ v7_count.toInt ≤ 8 := i1
  refine lv_iload_n hx hb dX11_without_0 rfl (lv_at hl 1 rfl) ?_
  refine kcm_i hA hAB hP hD hS [false, false, false, false, false, false, false, false, false, false, false] rfl (fun _ => rfl) (fun hPc hDc => va_runS (As := [.int p1]) (rest := []) ⟨hx, hb, hml, hown, hts⟩ (k_X11_isSlack l D κ β s.heap.size p1) (va_cwS 1 hts gX11_without_X11_isSlack rfl rfl rfl (by decide +kernel) ⟨Nat.le_of_ble_eq_true rfl, Nat.le_of_ble_eq_true rfl⟩) (pk_S hK hS hAB hPc hDc) rfl rfl hl.1 rfl (lv_room (Nat.le_of_ble_eq_true rfl)) dX11_without_1 ⟨Nat.le_of_ble_eq_true rfl, Nat.le_of_ble_eq_true rfl⟩) (fun x1 u2 H locs hw hPD hS => ?_)
  have h3 : (x1.toInt = 1 ∧ 0 ≤ p1.toInt ∧ p1.toInt ≤ 99) ∨ (x1.toInt = 0 ∧ (p1.toInt < 0 ∨ 99 < p1.toInt)) := hw
  obtain ⟨hP, hD⟩ : PD D A [O11 a11 a7 a5 a3 a2 a6 a4 a10 a9 a1 a0 a8 aN, O7 a7 r7 v7_count v7_holes v7_worms, (cI κ (r7 2) 40 f7_sheetOf), (cI κ (r7 3) 40 f7_placeOf), (cI κ (r7 4) 40 f7_byPlace), (cI κ (r7 6) 40 f7_wormOf), (cI κ (r7 7) 40 f7_wormSheets), O5 a5 r5 v5_all, (cI κ (r5 1) 256 f5_mayFollow), (cI κ (r5 2) 256 f5_waysTo), (cI κ (r5 3) 256 f5_waysOn)] H := hPD
  refine lv_if_eq (tgt := 18) hx hb dX11_without_4 (by decide) (fun c4 => ?_) (fun c4 => ?_)
  · have c4 := ci_eq c4
    refine lv_iconst (v := (-1)) hx hb dX11_without_18 (by decide) ?_
    have hpo : (0 ≤ v7_worms.toInt ∧ v7_worms.toInt ≤ 40) ∧ (∀ j : Nat, 0 ≤ (f7_wormOf j).toInt ∧ (f7_wormOf j).toInt ≤ 39) ∧ (0 ≤ v5_all.toInt ∧ v5_all.toInt ≤ 255) := ⟨i3, hf7_wormOf, i4⟩
    exact ret _ _ _ _ (-1) (v7_worms, f7_wormOf, f7_wormSheets, v5_all, f5_mayFollow, f5_waysTo, f5_waysOn) dX11_without_19 hpo hP hD hS
  have c4 := ci_ne c4
  refine lv_aload_n hx hb dX11_without_7 rfl (lv_at hl 0 rfl) ?_
  refine va_get (D := D) (ci := 11) (v := .ref a7) (C := RX11) (T := TX11) (N := 12) hx hb hts w1 hown hK.1 hP 0 rfl rfl 0 (by decide) w0 (fun _ h9 => h9) rfl dX11_without_8 ?_
  refine lv_iload_n hx hb dX11_without_11 rfl (lv_at hl 2 rfl) ?_
  refine kcm_i hA hAB hP hD hS [false, true, false, false, false, false, false, false, false, false, false] rfl (fun _ => rfl) (fun hPc hDc => va_runV (As := [.int p2]) (rest := []) ⟨hx, hb, hml, hown, hts⟩ (k_X7_isSheet l D κ β a7 r7 v7_count v7_holes v7_worms H.size p2 i1 i2 i3) (cwV 1 hts gX11_without_X7_isSheet rfl rfl rfl (by decide +kernel) ⟨Nat.le_of_ble_eq_true rfl, Nat.le_of_ble_eq_true rfl⟩) (pk_V hK hS hAB hPc hDc 0 (ci := 7) rfl rfl rfl) rfl rfl hl.1 rfl (lv_room (Nat.le_of_ble_eq_true rfl)) dX11_without_12 ⟨Nat.le_of_ble_eq_true rfl, Nat.le_of_ble_eq_true rfl⟩) (fun x5 u6 H locs hw hPD hS => ?_)
  have h7 : (x5.toInt = 1 ∧ 0 ≤ p2.toInt ∧ p2.toInt < v7_count.toInt) ∨ (x5.toInt = 0 ∧ (p2.toInt < 0 ∨ v7_count.toInt ≤ p2.toInt)) := hw
  obtain ⟨hP, hD⟩ : PD D A [O11 a11 a7 a5 a3 a2 a6 a4 a10 a9 a1 a0 a8 aN, O7 a7 r7 v7_count v7_holes v7_worms, (cI κ (r7 2) 40 f7_sheetOf), (cI κ (r7 3) 40 f7_placeOf), (cI κ (r7 4) 40 f7_byPlace), (cI κ (r7 6) 40 f7_wormOf), (cI κ (r7 7) 40 f7_wormSheets), O5 a5 r5 v5_all, (cI κ (r5 1) 256 f5_mayFollow), (cI κ (r5 2) 256 f5_waysTo), (cI κ (r5 3) 256 f5_waysOn)] H := hPD
  refine lv_if_ne (tgt := 20) hx hb dX11_without_15 (by decide) (fun c8 => ?_) (fun c8 => ?_)
  · have c8 := ci_ne c8
    refine lv_aload_n hx hb dX11_without_20 rfl (lv_at hl 0 rfl) ?_
    refine va_get (D := D) (ci := 11) (v := .ref a7) (C := RX11) (T := TX11) (N := 12) hx hb hts w1 hown hK.1 hP 0 rfl rfl 0 (by decide) w0 (fun _ h9 => h9) rfl dX11_without_21 ?_
    refine va_get (D := D) (ci := 7) (v := .int v7_count) (C := RX7) (T := TX7) (N := 9) hx hb hts w3 hown hK.1 hP 1 rfl rfl 1 (by decide) w2 (fun _ h9 => h9) rfl dX11_without_24 ?_
    refine lv_iconst (v := 1) hx hb dX11_without_27 (by decide) ?_
    refine lv_isub hx hb dX11_without_28 ?_
    refine lv_topi (fun x9 e10 => ?_)
    try have h11 : x9.toInt = v7_count.toInt - (1 : Int32).toInt := ci_sub e10 (by omega) (by omega)
    refine lv_bipush (v := 6) hx hb dX11_without_29 (by decide) ?_
    refine lv_icmp_le (tgt := 37) hx hb dX11_without_31 (by decide) (fun c12 => ?_) (fun c12 => ?_)
    · have c12 := ci_le c12
      refine lv_aload_n hx hb dX11_without_37 rfl (lv_at hl 0 rfl) ?_
      refine lv_iload_n hx hb dX11_without_38 rfl (lv_at hl 1 rfl) ?_
      refine lv_aload_n hx hb dX11_without_39 rfl (lv_at hl 0 rfl) ?_
      refine va_get (D := D) (ci := 11) (v := .ref a7) (C := RX11) (T := TX11) (N := 12) hx hb hts w1 hown hK.1 hP 0 rfl rfl 0 (by decide) w0 (fun _ h9 => h9) rfl dX11_without_40 ?_
      refine kcm_i hA hAB hP hD hS [false, true, false, false, false, false, false, false, false, false, false] rfl (fun _ => rfl) (fun hPc hDc => va_runV (As := []) (rest := [.int p1, .ref a11]) ⟨hx, hb, hml, hown, hts⟩ (k_X7_all l D κ β a7 r7 v7_count v7_holes v7_worms H.size i1 i2 i3) (cwV 0 hts gX11_without_X7_all rfl rfl rfl (by decide +kernel) ⟨Nat.le_of_ble_eq_true rfl, Nat.le_of_ble_eq_true rfl⟩) (pk_V hK hS hAB hPc hDc 0 (ci := 7) rfl rfl rfl) rfl rfl hl.1 rfl (lv_room (Nat.le_of_ble_eq_true rfl)) dX11_without_43 ⟨Nat.le_of_ble_eq_true rfl, Nat.le_of_ble_eq_true rfl⟩) (fun x13 u14 H locs hw hPD hS => ?_)
      have h15 : 0 ≤ x13.toInt ∧ x13.toInt ≤ 255 := hw
      obtain ⟨hP, hD⟩ : PD D A [O11 a11 a7 a5 a3 a2 a6 a4 a10 a9 a1 a0 a8 aN, O7 a7 r7 v7_count v7_holes v7_worms, (cI κ (r7 2) 40 f7_sheetOf), (cI κ (r7 3) 40 f7_placeOf), (cI κ (r7 4) 40 f7_byPlace), (cI κ (r7 6) 40 f7_wormOf), (cI κ (r7 7) 40 f7_wormSheets), O5 a5 r5 v5_all, (cI κ (r5 1) 256 f5_mayFollow), (cI κ (r5 2) 256 f5_waysTo), (cI κ (r5 3) 256 f5_waysOn)] H := hPD
      refine lv_iconst (v := 1) hx hb dX11_without_46 (by decide) ?_
      refine lv_iload_n hx hb dX11_without_47 rfl (lv_at hl 2 rfl) ?_
      refine lv_ishl hx hb dX11_without_48 ?_
      refine lv_topi (fun x16 e17 => ?_)
      refine lv_iconst (v := (-1)) hx hb dX11_without_49 (by decide) ?_
      refine lv_ixor hx hb dX11_without_50 ?_
      refine lv_topi (fun x18 e19 => ?_)
      refine lv_iand hx hb dX11_without_51 ?_
      refine lv_topi (fun x20 e21 => ?_)
      try have h22 := and_rng e21 (by omega)
      refine kcm_v hA hAB hP hD hS [true, true, true, true, true, true, true, true, true, true, true] rfl (fun _ => rfl) (fun hPc hDc => va_runV (As := [.int p1, .int x20]) (rest := []) ⟨hx, hb, hml, hown, hts⟩ (k_X11_findOrders l D κ β a11 a7 a5 a3 a2 a6 a4 a10 a9 a1 a0 a8 aN r7 r5 v7_count v7_holes v7_worms f7_sheetOf f7_placeOf f7_byPlace f7_wormOf f7_wormSheets v5_all f5_mayFollow f5_waysTo f5_waysOn H.size p1 x20 i1 i2 i3 hf7_sheetOf hf7_byPlace hf7_wormOf i4 (by omega)) (cwV 2 hts gX11_without_X11_findOrders rfl rfl rfl (by decide +kernel) ⟨Nat.le_of_ble_eq_true rfl, Nat.le_of_ble_eq_true rfl⟩) (pk_V hK hS hAB hPc hDc 0 (ci := 11) rfl rfl rfl) rfl rfl hl.1 rfl (lv_room (Nat.le_of_ble_eq_true rfl)) dX11_without_52 ⟨Nat.le_of_ble_eq_true rfl, Nat.le_of_ble_eq_true rfl⟩) (fun u30 H locs hw hPD hS => ?_)
      obtain ⟨x23, g24, g25, x26, g27, g28, g29⟩ := u30
      obtain ⟨h31, h32, h33⟩ : (Rg 0 40 x23) ∧ (∀ j : Nat, 0 ≤ (g24 j).toInt ∧ (g24 j).toInt ≤ 39) ∧ (Rg 0 255 x26) := hw
      obtain ⟨hP, hD⟩ : PD D A [O11 a11 a7 a5 a3 a2 a6 a4 a10 a9 a1 a0 a8 aN, O7 a7 r7 v7_count v7_holes x23, (cI κ (r7 2) 40 f7_sheetOf), (cI κ (r7 3) 40 f7_placeOf), (cI κ (r7 4) 40 f7_byPlace), (cI κ (r7 6) 40 g24), (cI κ (r7 7) 40 g25), O5 a5 r5 x26, (cI κ (r5 1) 256 g27), (cI κ (r5 2) 256 g28), (cI κ (r5 3) 256 g29)] H := hPD
      refine lv_aload_n hx hb dX11_without_55 rfl (lv_at hl 0 rfl) ?_
      refine va_get (D := D) (ci := 11) (v := .ref a5) (C := RX11) (T := TX11) (N := 12) hx hb hts w1 hown hK.1 hP 0 rfl rfl 1 (by decide) w4 (fun _ h9 => h9) rfl dX11_without_56 ?_
      refine kcm_i hA hAB hP hD hS [false, false, false, false, false, false, false, true, false, false, true] rfl (fun _ => rfl) (fun hPc hDc => va_runV (As := []) (rest := []) ⟨hx, hb, hml, hown, hts⟩ (k_X5_howMany l D κ β a5 r5 x26 g29 H.size h33) (cwV 0 hts gX11_without_X5_howMany rfl rfl rfl (by decide +kernel) ⟨Nat.le_of_ble_eq_true rfl, Nat.le_of_ble_eq_true rfl⟩) (pk_V hK hS hAB hPc hDc 0 (ci := 5) rfl rfl rfl) rfl rfl hl.1 rfl (lv_room (Nat.le_of_ble_eq_true rfl)) dX11_without_59 ⟨Nat.le_of_ble_eq_true rfl, Nat.le_of_ble_eq_true rfl⟩) (fun x34 u35 H locs hw hPD hS => ?_)
      obtain ⟨hP, hD⟩ : PD D A [O11 a11 a7 a5 a3 a2 a6 a4 a10 a9 a1 a0 a8 aN, O7 a7 r7 v7_count v7_holes x23, (cI κ (r7 2) 40 f7_sheetOf), (cI κ (r7 3) 40 f7_placeOf), (cI κ (r7 4) 40 f7_byPlace), (cI κ (r7 6) 40 g24), (cI κ (r7 7) 40 g25), O5 a5 r5 x26, (cI κ (r5 1) 256 g27), (cI κ (r5 2) 256 g28), (cI κ (r5 3) 256 g29)] H := hPD
      have hpo : (0 ≤ x23.toInt ∧ x23.toInt ≤ 40) ∧ (∀ j : Nat, 0 ≤ (g24 j).toInt ∧ (g24 j).toInt ≤ 39) ∧ (0 ≤ x26.toInt ∧ x26.toInt ≤ 255) := ⟨h31, h32, h33⟩
      exact ret _ _ _ _ x34 (x23, g24, g25, x26, g27, g28, g29) dX11_without_62 hpo hP hD hS
    have c12 := ci_nle c12
    refine lv_bipush (v := (-4)) hx hb dX11_without_34 (by decide) ?_
    have hpo : (0 ≤ v7_worms.toInt ∧ v7_worms.toInt ≤ 40) ∧ (∀ j : Nat, 0 ≤ (f7_wormOf j).toInt ∧ (f7_wormOf j).toInt ≤ 39) ∧ (0 ≤ v5_all.toInt ∧ v5_all.toInt ≤ 255) := ⟨i3, hf7_wormOf, i4⟩
    exact ret _ _ _ _ (-4) (v7_worms, f7_wormOf, f7_wormSheets, v5_all, f5_mayFollow, f5_waysTo, f5_waysOn) dX11_without_36 hpo hP hD hS
  have c8 := ci_eq c8
  refine lv_iconst (v := (-1)) hx hb dX11_without_18 (by decide) ?_
  have hpo : (0 ≤ v7_worms.toInt ∧ v7_worms.toInt ≤ 40) ∧ (∀ j : Nat, 0 ≤ (f7_wormOf j).toInt ∧ (f7_wormOf j).toInt ≤ 39) ∧ (0 ≤ v5_all.toInt ∧ v5_all.toInt ≤ 255) := ⟨i3, hf7_wormOf, i4⟩
  exact ret _ _ _ _ (-1) (v7_worms, f7_wormOf, f7_wormSheets, v5_all, f5_mayFollow, f5_waysTo, f5_waysOn) dX11_without_19 hpo hP hD hS
set_option maxHeartbeats 4000000 in
set_option maxRecDepth 100000 in
theorem k_X11_line (l : Launch) (D : va_G) (κ : Nat → ClassId) (β : Nat) (a11 : Nat) (a7 : Nat) (a5 : Nat) (a3 : Nat) (a2 : Nat) (a6 : Nat) (a4 : Nat) (a10 : Nat) (a9 : Nat) (a1 : Nat) (a0 : Nat) (a8 : Nat) (aN : Nat) (r7 : Nat → Nat) (r3 : Nat → Nat) (v7_count : Int32) (v7_holes : Int32) (v7_worms : Int32) (v3_count : Int32) (v3_marks : Int32) (f3_sheetOf : Nat → Int32) (f3_inkOf : Nat → Int32) (sz : Nat) (p1 : Int32) (p2 : Int32) (i1 : Rg 0 8 v7_count) (i2 : Rg 0 40 v7_holes) (i3 : Rg 0 40 v7_worms) (i4 : Rg 0 20 v3_count) (i5 : Rg 0 60 v3_marks) : Met l yX11_line wsX11_line ({ frames := 2, cells := 0, slots := 0, locals := 43 } : Room) (PcK D κ β [O11 a11 a7 a5 a3 a2 a6 a4 a10 a9 a1 a0 a8 aN, O7 a7 r7 v7_count v7_holes v7_worms, O3 a3 r3 v3_count v3_marks, (cI κ (r3 0) 20 f3_sheetOf), (cI κ (r3 1) 20 f3_inkOf)] sz [.ref a11, .int p1, .int p2]) (QiK D (fun (r : Int32) (u : Int32 × (Nat → Int32) × (Nat → Int32)) => (0 ≤ u.1.toInt ∧ u.1.toInt ≤ 20) ∧ ((¬ (0 ≤ p1.toInt ∧ p1.toInt < v7_count.toInt ∧ 0 ≤ p2.toInt ∧ p2.toInt ≤ 5) ∧ r.toInt = -1 ∧ u.1.toInt = v3_count.toInt) ∨ ((0 ≤ p1.toInt ∧ p1.toInt < v7_count.toInt ∧ 0 ≤ p2.toInt ∧ p2.toInt ≤ 5) ∧ v3_count.toInt = 20 ∧ r.toInt = -3 ∧ u.1.toInt = v3_count.toInt) ∨ ((0 ≤ p1.toInt ∧ p1.toInt < v7_count.toInt ∧ 0 ≤ p2.toInt ∧ p2.toInt ≤ 5) ∧ v3_count.toInt < 20 ∧ r.toInt = v3_count.toInt ∧ u.1.toInt = v3_count.toInt + 1))) (fun (u : Int32 × (Nat → Int32) × (Nat → Int32)) => [O11 a11 a7 a5 a3 a2 a6 a4 a10 a9 a1 a0 a8 aN, O7 a7 r7 v7_count v7_holes v7_worms, O3 a3 r3 u.1 v3_marks, (cI κ (r3 0) 20 u.2.1), (cI κ (r3 1) 20 u.2.2)]) [O11 a11 a7 a5 a3 a2 a6 a4 a10 a9 a1 a0 a8 aN, O7 a7 r7 v7_count v7_holes v7_worms, O3 a3 r3 v3_count v3_marks, (cI κ (r3 0) 20 f3_sheetOf), (cI κ (r3 1) 20 f3_inkOf)] sz) 0 0 (va_A [O11 a11 a7 a5 a3 a2 a6 a4 a10 a9 a1 a0 a8 aN, O7 a7 r7 v7_count v7_holes v7_worms, O3 a3 r3 v3_count v3_marks, (cI κ (r3 0) 20 f3_sheetOf), (cI κ (r3 1) 20 f3_inkOf)] sz) := by
  refine ofK_i (cc := cX11_line) (maxL := 3) (own := RX11) (by decide) rfl rfl (Nat.le_of_ble_eq_true rfl) ?_
  intro p e s m args below meth c Q A ls hsz hx hb hml hts hown hK hA hAB hP hD hl ret
  have hS : va_S A s.heap s.heap [] := va_S.rf
  have hl : lv_has ls 3 [(0, .ref a11), (1, .int p1), (2, .int p2)] := hl
  have w0 := hts (.fieldLink RX11 10 "OlderSkin" "sheets" "LOlderSkin$Sheets;") (List.mem_of_getElem? (i := 1) rfl)
  have w1 := (fun w h => List.mem_cons_of_mem _ (List.mem_append_left _ (List.mem_append_left _ (List.mem_append_right _ h))) : ∀ w ∈ u_ws RX11 TX11 12, w ∈ wsX11_line)
  have w2 := hts (.fieldLink RX11 26 "OlderSkin" "lines" "LOlderSkin$Lines;") (List.mem_of_getElem? (i := 2) rfl)
  have l0 : (0 : Int32).toInt = 0 := by decide
  have l1 : ((-1) : Int32).toInt = -1 := by decide
  have i1 : 0 ≤ v7_count.toInt ∧ v7_count.toInt ≤ 8 := i1
  have i4 : 0 ≤ v3_count.toInt ∧ v3_count.toInt ≤ 20 := i4
  refine lv_aload_n hx hb dX11_line_0 rfl (lv_at hl 0 rfl) ?_
  refine va_get (D := D) (ci := 11) (v := .ref a7) (C := RX11) (T := TX11) (N := 12) hx hb hts w1 hown hK.1 hP 0 rfl rfl 0 (by decide) w0 (fun _ h9 => h9) rfl dX11_line_1 ?_
  refine lv_iload_n hx hb dX11_line_4 rfl (lv_at hl 1 rfl) ?_
  refine kcm_i hA hAB hP hD hS [false, true, false, false, false] rfl (fun _ => rfl) (fun hPc hDc => va_runV (As := [.int p1]) (rest := []) ⟨hx, hb, hml, hown, hts⟩ (k_X7_isSheet l D κ β a7 r7 v7_count v7_holes v7_worms s.heap.size p1 i1 i2 i3) (cwV 1 hts gX11_line_X7_isSheet rfl rfl rfl (by decide +kernel) ⟨Nat.le_of_ble_eq_true rfl, Nat.le_of_ble_eq_true rfl⟩) (pk_V hK hS hAB hPc hDc 0 (ci := 7) rfl rfl rfl) rfl rfl hl.1 rfl (lv_room (Nat.le_of_ble_eq_true rfl)) dX11_line_5 ⟨Nat.le_of_ble_eq_true rfl, Nat.le_of_ble_eq_true rfl⟩) (fun x1 u2 H locs hw hPD hS => ?_)
  have h3 : (x1.toInt = 1 ∧ 0 ≤ p1.toInt ∧ p1.toInt < v7_count.toInt) ∨ (x1.toInt = 0 ∧ (p1.toInt < 0 ∨ v7_count.toInt ≤ p1.toInt)) := hw
  obtain ⟨hP, hD⟩ : PD D A [O11 a11 a7 a5 a3 a2 a6 a4 a10 a9 a1 a0 a8 aN, O7 a7 r7 v7_count v7_holes v7_worms, O3 a3 r3 v3_count v3_marks, (cI κ (r3 0) 20 f3_sheetOf), (cI κ (r3 1) 20 f3_inkOf)] H := hPD
  refine lv_if_eq (tgt := 18) hx hb dX11_line_8 (by decide) (fun c4 => ?_) (fun c4 => ?_)
  · have c4 := ci_eq c4
    refine lv_iconst (v := (-1)) hx hb dX11_line_18 (by decide) ?_
    have hpo : (0 ≤ v3_count.toInt ∧ v3_count.toInt ≤ 20) ∧ ((¬ (0 ≤ p1.toInt ∧ p1.toInt < v7_count.toInt ∧ 0 ≤ p2.toInt ∧ p2.toInt ≤ 5) ∧ ((-1) : Int32).toInt = -1 ∧ v3_count.toInt = v3_count.toInt) ∨ ((0 ≤ p1.toInt ∧ p1.toInt < v7_count.toInt ∧ 0 ≤ p2.toInt ∧ p2.toInt ≤ 5) ∧ v3_count.toInt = 20 ∧ ((-1) : Int32).toInt = -3 ∧ v3_count.toInt = v3_count.toInt) ∨ ((0 ≤ p1.toInt ∧ p1.toInt < v7_count.toInt ∧ 0 ≤ p2.toInt ∧ p2.toInt ≤ 5) ∧ v3_count.toInt < 20 ∧ ((-1) : Int32).toInt = v3_count.toInt ∧ v3_count.toInt = v3_count.toInt + 1)) := ⟨i4, (by omega)⟩
    exact ret _ _ _ _ (-1) (v3_count, f3_sheetOf, f3_inkOf) dX11_line_19 hpo hP hD hS
  have c4 := ci_ne c4
  refine lv_iload_n hx hb dX11_line_11 rfl (lv_at hl 2 rfl) ?_
  refine kcm_i hA hAB hP hD hS [false, false, false, false, false] rfl (fun _ => rfl) (fun hPc hDc => va_runS (As := [.int p2]) (rest := []) ⟨hx, hb, hml, hown, hts⟩ (k_X11_isInk l D κ β H.size p2) (va_cwS 1 hts gX11_line_X11_isInk rfl rfl rfl (by decide +kernel) ⟨Nat.le_of_ble_eq_true rfl, Nat.le_of_ble_eq_true rfl⟩) (pk_S hK hS hAB hPc hDc) rfl rfl hl.1 rfl (lv_room (Nat.le_of_ble_eq_true rfl)) dX11_line_12 ⟨Nat.le_of_ble_eq_true rfl, Nat.le_of_ble_eq_true rfl⟩) (fun x5 u6 H locs hw hPD hS => ?_)
  have h7 : (x5.toInt = 1 ∧ 0 ≤ p2.toInt ∧ p2.toInt ≤ 5) ∨ (x5.toInt = 0 ∧ (p2.toInt < 0 ∨ 5 < p2.toInt)) := hw
  obtain ⟨hP, hD⟩ : PD D A [O11 a11 a7 a5 a3 a2 a6 a4 a10 a9 a1 a0 a8 aN, O7 a7 r7 v7_count v7_holes v7_worms, O3 a3 r3 v3_count v3_marks, (cI κ (r3 0) 20 f3_sheetOf), (cI κ (r3 1) 20 f3_inkOf)] H := hPD
  refine lv_if_ne (tgt := 20) hx hb dX11_line_15 (by decide) (fun c8 => ?_) (fun c8 => ?_)
  · have c8 := ci_ne c8
    refine lv_aload_n hx hb dX11_line_20 rfl (lv_at hl 0 rfl) ?_
    refine va_get (D := D) (ci := 11) (v := .ref a3) (C := RX11) (T := TX11) (N := 12) hx hb hts w1 hown hK.1 hP 0 rfl rfl 2 (by decide) w2 (fun _ h9 => h9) rfl dX11_line_21 ?_
    refine lv_iload_n hx hb dX11_line_24 rfl (lv_at hl 1 rfl) ?_
    refine lv_iload_n hx hb dX11_line_25 rfl (lv_at hl 2 rfl) ?_
    refine kcm_i hA hAB hP hD hS [false, false, true, true, true] rfl (fun _ => rfl) (fun hPc hDc => va_runV (As := [.int p1, .int p2]) (rest := []) ⟨hx, hb, hml, hown, hts⟩ (k_X3_add l D κ β a3 r3 v3_count v3_marks f3_sheetOf f3_inkOf H.size p1 p2 i4 i5) (cwV 2 hts gX11_line_X3_add rfl rfl rfl (by decide +kernel) ⟨Nat.le_of_ble_eq_true rfl, Nat.le_of_ble_eq_true rfl⟩) (pk_V hK hS hAB hPc hDc 0 (ci := 3) rfl rfl rfl) rfl rfl hl.1 rfl (lv_room (Nat.le_of_ble_eq_true rfl)) dX11_line_26 ⟨Nat.le_of_ble_eq_true rfl, Nat.le_of_ble_eq_true rfl⟩) (fun x12 u13 H locs hw hPD hS => ?_)
    obtain ⟨x9, g10, g11⟩ := u13
    obtain ⟨h14, h15⟩ : (0 ≤ x9.toInt ∧ x9.toInt ≤ 20) ∧ ((v3_count.toInt = 20 ∧ x12.toInt = -3 ∧ x9.toInt = v3_count.toInt) ∨ (v3_count.toInt < 20 ∧ x12.toInt = v3_count.toInt ∧ x9.toInt = v3_count.toInt + 1)) := hw
    obtain ⟨hP, hD⟩ : PD D A [O11 a11 a7 a5 a3 a2 a6 a4 a10 a9 a1 a0 a8 aN, O7 a7 r7 v7_count v7_holes v7_worms, O3 a3 r3 x9 v3_marks, (cI κ (r3 0) 20 g10), (cI κ (r3 1) 20 g11)] H := hPD
    have hpo : (0 ≤ x9.toInt ∧ x9.toInt ≤ 20) ∧ ((¬ (0 ≤ p1.toInt ∧ p1.toInt < v7_count.toInt ∧ 0 ≤ p2.toInt ∧ p2.toInt ≤ 5) ∧ x12.toInt = -1 ∧ x9.toInt = v3_count.toInt) ∨ ((0 ≤ p1.toInt ∧ p1.toInt < v7_count.toInt ∧ 0 ≤ p2.toInt ∧ p2.toInt ≤ 5) ∧ v3_count.toInt = 20 ∧ x12.toInt = -3 ∧ x9.toInt = v3_count.toInt) ∨ ((0 ≤ p1.toInt ∧ p1.toInt < v7_count.toInt ∧ 0 ≤ p2.toInt ∧ p2.toInt ≤ 5) ∧ v3_count.toInt < 20 ∧ x12.toInt = v3_count.toInt ∧ x9.toInt = v3_count.toInt + 1)) := ⟨h14, (by omega)⟩
    exact ret _ _ _ _ x12 (x9, g10, g11) dX11_line_29 hpo hP hD hS
  have c8 := ci_eq c8
  refine lv_iconst (v := (-1)) hx hb dX11_line_18 (by decide) ?_
  have hpo : (0 ≤ v3_count.toInt ∧ v3_count.toInt ≤ 20) ∧ ((¬ (0 ≤ p1.toInt ∧ p1.toInt < v7_count.toInt ∧ 0 ≤ p2.toInt ∧ p2.toInt ≤ 5) ∧ ((-1) : Int32).toInt = -1 ∧ v3_count.toInt = v3_count.toInt) ∨ ((0 ≤ p1.toInt ∧ p1.toInt < v7_count.toInt ∧ 0 ≤ p2.toInt ∧ p2.toInt ≤ 5) ∧ v3_count.toInt = 20 ∧ ((-1) : Int32).toInt = -3 ∧ v3_count.toInt = v3_count.toInt) ∨ ((0 ≤ p1.toInt ∧ p1.toInt < v7_count.toInt ∧ 0 ≤ p2.toInt ∧ p2.toInt ≤ 5) ∧ v3_count.toInt < 20 ∧ ((-1) : Int32).toInt = v3_count.toInt ∧ v3_count.toInt = v3_count.toInt + 1)) := ⟨i4, (by omega)⟩
  exact ret _ _ _ _ (-1) (v3_count, f3_sheetOf, f3_inkOf) dX11_line_19 hpo hP hD hS
set_option maxHeartbeats 4000000 in
set_option maxRecDepth 100000 in
theorem k_X11_mark (l : Launch) (D : va_G) (κ : Nat → ClassId) (β : Nat) (a11 : Nat) (a7 : Nat) (a5 : Nat) (a3 : Nat) (a2 : Nat) (a6 : Nat) (a4 : Nat) (a10 : Nat) (a9 : Nat) (a1 : Nat) (a0 : Nat) (a8 : Nat) (aN : Nat) (r7 : Nat → Nat) (r3 : Nat → Nat) (v7_count : Int32) (v7_holes : Int32) (v7_worms : Int32) (f7_sheetOf : Nat → Int32) (v3_count : Int32) (v3_marks : Int32) (f3_sheetOf : Nat → Int32) (f3_markLine : Nat → Int32) (f3_markHole : Nat → Int32) (f3_markOver : Nat → Int32) (sz : Nat) (p1 : Int32) (p2 : Int32) (i1 : Rg 0 8 v7_count) (i2 : Rg 0 40 v7_holes) (i3 : Rg 0 40 v7_worms) (hf7_sheetOf : ∀ j : Nat, 0 ≤ (f7_sheetOf j).toInt ∧ (f7_sheetOf j).toInt ≤ 7) (i4 : Rg 0 20 v3_count) (i5 : Rg 0 60 v3_marks) (hf3_markLine : ∀ j : Nat, 0 ≤ (f3_markLine j).toInt ∧ (f3_markLine j).toInt ≤ 19) (hf3_markHole : ∀ j : Nat, 0 ≤ (f3_markHole j).toInt ∧ (f3_markHole j).toInt ≤ 39) : Met l yX11_mark wsX11_mark ({ frames := 2, cells := 0, slots := 0, locals := 45 } : Room) (PcK D κ β [O11 a11 a7 a5 a3 a2 a6 a4 a10 a9 a1 a0 a8 aN, O7 a7 r7 v7_count v7_holes v7_worms, (cI κ (r7 2) 40 f7_sheetOf), O3 a3 r3 v3_count v3_marks, (cI κ (r3 0) 20 f3_sheetOf), (cI κ (r3 3) 60 f3_markLine), (cI κ (r3 4) 60 f3_markHole), (cI κ (r3 5) 60 f3_markOver)] sz [.ref a11, .int p1, .int p2]) (QiK D (fun (r : Int32) (u : Int32 × (Nat → Int32) × (Nat → Int32) × (Nat → Int32)) => (0 ≤ u.1.toInt ∧ u.1.toInt ≤ 60) ∧ (∀ j : Nat, 0 ≤ (u.2.1 j).toInt ∧ (u.2.1 j).toInt ≤ 19) ∧ (∀ j : Nat, 0 ≤ (u.2.2.1 j).toInt ∧ (u.2.2.1 j).toInt ≤ 39)) (fun (u : Int32 × (Nat → Int32) × (Nat → Int32) × (Nat → Int32)) => [O11 a11 a7 a5 a3 a2 a6 a4 a10 a9 a1 a0 a8 aN, O7 a7 r7 v7_count v7_holes v7_worms, (cI κ (r7 2) 40 f7_sheetOf), O3 a3 r3 v3_count u.1, (cI κ (r3 0) 20 f3_sheetOf), (cI κ (r3 3) 60 u.2.1), (cI κ (r3 4) 60 u.2.2.1), (cI κ (r3 5) 60 u.2.2.2)]) [O11 a11 a7 a5 a3 a2 a6 a4 a10 a9 a1 a0 a8 aN, O7 a7 r7 v7_count v7_holes v7_worms, (cI κ (r7 2) 40 f7_sheetOf), O3 a3 r3 v3_count v3_marks, (cI κ (r3 0) 20 f3_sheetOf), (cI κ (r3 3) 60 f3_markLine), (cI κ (r3 4) 60 f3_markHole), (cI κ (r3 5) 60 f3_markOver)] sz) 0 0 (va_A [O11 a11 a7 a5 a3 a2 a6 a4 a10 a9 a1 a0 a8 aN, O7 a7 r7 v7_count v7_holes v7_worms, (cI κ (r7 2) 40 f7_sheetOf), O3 a3 r3 v3_count v3_marks, (cI κ (r3 0) 20 f3_sheetOf), (cI κ (r3 3) 60 f3_markLine), (cI κ (r3 4) 60 f3_markHole), (cI κ (r3 5) 60 f3_markOver)] sz) := by
  refine ofK_i (cc := cX11_mark) (maxL := 5) (own := RX11) (by decide) rfl rfl (Nat.le_of_ble_eq_true rfl) ?_
  intro p e s m args below meth c Q A ls hsz hx hb hml hts hown hK hA hAB hP hD hl ret
  have hS : va_S A s.heap s.heap [] := va_S.rf
  have hl : lv_has ls 5 [(0, .ref a11), (1, .int p1), (2, .int p2)] := hl
  have w0 := hts (.fieldLink RX11 26 "OlderSkin" "lines" "LOlderSkin$Lines;") (List.mem_of_getElem? (i := 1) rfl)
  have w1 := (fun w h => List.mem_cons_of_mem _ (List.mem_append_left _ (List.mem_append_left _ (List.mem_append_right _ h))) : ∀ w ∈ u_ws RX11 TX11 12, w ∈ wsX11_mark)
  have w2 := hts (.fieldLink RX11 10 "OlderSkin" "sheets" "LOlderSkin$Sheets;") (List.mem_of_getElem? (i := 2) rfl)
  have w3 := hts (.fieldLink RX11 178 "OlderSkin$Lines" "sheetOf" "[I") (List.mem_of_getElem? (i := 3) rfl)
  have w4 := (fun w h => List.mem_cons_of_mem _ (List.mem_append_left _ (List.mem_append_right _ h)) : ∀ w ∈ u_ws RX3 TX3 10, w ∈ wsX11_mark)
  have w5 := hts (.fieldLink RX11 181 "OlderSkin$Sheets" "sheetOf" "[I") (List.mem_of_getElem? (i := 4) rfl)
  have w6 := (fun w h => List.mem_cons_of_mem _ (List.mem_append_right _ h) : ∀ w ∈ u_ws RX7 TX7 9, w ∈ wsX11_mark)
  have l0 : (100 : Int32).toInt = 100 := by decide
  have l1 : (0 : Int32).toInt = 0 := by decide
  have l2 : ((-1) : Int32).toInt = -1 := by decide
  have i2 : 0 ≤ v7_holes.toInt ∧ v7_holes.toInt ≤ 40 := i2
  have i4 : 0 ≤ v3_count.toInt ∧ v3_count.toInt ≤ 20 := i4
  refine lv_iload_n hx hb dX11_mark_0 rfl (lv_at hl 1 rfl) ?_
  refine lv_bipush (v := 100) hx hb dX11_mark_1 (by decide) ?_
  refine lv_idiv hx hb dX11_mark_3 (by decide) ?_
  refine lv_topi (fun x1 e2 => ?_)
  have h3 := ci_divL (n := 100) (by decide) (by decide) e2
  refine lv_istore_n (lv' := [(3, .int x1), (0, .ref a11), (1, .int p1), (2, .int p2)]) hx hb dX11_mark_4 rfl hl (by decide) rfl (fun ls hl => ?_)
  refine lv_iload_n hx hb dX11_mark_5 rfl (lv_at hl 2 rfl) ?_
  refine lv_bipush (v := 100) hx hb dX11_mark_6 (by decide) ?_
  refine lv_irem hx hb dX11_mark_8 (by decide) ?_
  refine lv_topi (fun x4 e5 => ?_)
  have h6 := ci_remL (n := 100) (by decide) (by decide) e5
  refine lv_istore (lv' := [(4, .int x4), (3, .int x1), (0, .ref a11), (1, .int p1), (2, .int p2)]) hx hb dX11_mark_9 hl (by decide) rfl (fun ls hl => ?_)
  refine lv_aload_n hx hb dX11_mark_11 rfl (lv_at hl 2 rfl) ?_
  refine va_get (D := D) (ci := 11) (v := .ref a3) (C := RX11) (T := TX11) (N := 12) hx hb hts w1 hown hK.1 hP 0 rfl rfl 2 (by decide) w0 (fun _ h9 => h9) rfl dX11_mark_12 ?_
  refine lv_iload_n hx hb dX11_mark_15 rfl (lv_at hl 1 rfl) ?_
  refine kcm_i hA hAB hP hD hS [false, false, false, true, false, false, false, false] rfl (fun _ => rfl) (fun hPc hDc => va_runV (As := [.int x1]) (rest := []) ⟨hx, hb, hml, hown, hts⟩ (k_X3_isLine l D κ β a3 r3 v3_count v3_marks s.heap.size x1 i4 i5) (cwV 1 hts gX11_mark_X3_isLine rfl rfl rfl (by decide +kernel) ⟨Nat.le_of_ble_eq_true rfl, Nat.le_of_ble_eq_true rfl⟩) (pk_V hK hS hAB hPc hDc 0 (ci := 3) rfl rfl rfl) rfl rfl hl.1 rfl (lv_room (Nat.le_of_ble_eq_true rfl)) dX11_mark_16 ⟨Nat.le_of_ble_eq_true rfl, Nat.le_of_ble_eq_true rfl⟩) (fun x7 u8 H locs hw hPD hS => ?_)
  have h9 : (x7.toInt = 1 ∧ 0 ≤ x1.toInt ∧ x1.toInt < v3_count.toInt) ∨ (x7.toInt = 0 ∧ (x1.toInt < 0 ∨ v3_count.toInt ≤ x1.toInt)) := hw
  obtain ⟨hP, hD⟩ : PD D A [O11 a11 a7 a5 a3 a2 a6 a4 a10 a9 a1 a0 a8 aN, O7 a7 r7 v7_count v7_holes v7_worms, (cI κ (r7 2) 40 f7_sheetOf), O3 a3 r3 v3_count v3_marks, (cI κ (r3 0) 20 f3_sheetOf), (cI κ (r3 3) 60 f3_markLine), (cI κ (r3 4) 60 f3_markHole), (cI κ (r3 5) 60 f3_markOver)] H := hPD
  refine lv_if_eq (tgt := 41) hx hb dX11_mark_19 (by decide) (fun c10 => ?_) (fun c10 => ?_)
  · have c10 := ci_eq c10
    refine lv_iconst (v := (-1)) hx hb dX11_mark_41 (by decide) ?_
    have hpo : (0 ≤ v3_marks.toInt ∧ v3_marks.toInt ≤ 60) ∧ (∀ j : Nat, 0 ≤ (f3_markLine j).toInt ∧ (f3_markLine j).toInt ≤ 19) ∧ (∀ j : Nat, 0 ≤ (f3_markHole j).toInt ∧ (f3_markHole j).toInt ≤ 39) := ⟨i5, hf3_markLine, hf3_markHole⟩
    exact ret _ _ _ _ (-1) (v3_marks, f3_markLine, f3_markHole, f3_markOver) dX11_mark_42 hpo hP hD hS
  have c10 := ci_ne c10
  refine lv_aload_n hx hb dX11_mark_22 rfl (lv_at hl 2 rfl) ?_
  refine va_get (D := D) (ci := 11) (v := .ref a7) (C := RX11) (T := TX11) (N := 12) hx hb hts w1 hown hK.1 hP 0 rfl rfl 0 (by decide) w2 (fun _ h9 => h9) rfl dX11_mark_23 ?_
  refine lv_iload hx hb dX11_mark_26 (lv_at hl 0 rfl) ?_
  refine kcm_i hA hAB hP hD hS [false, true, false, false, false, false, false, false] rfl (fun _ => rfl) (fun hPc hDc => va_runV (As := [.int x4]) (rest := []) ⟨hx, hb, hml, hown, hts⟩ (k_X7_isHole l D κ β a7 r7 v7_count v7_holes v7_worms H.size x4 i1 i2 i3) (cwV 1 hts gX11_mark_X7_isHole rfl rfl rfl (by decide +kernel) ⟨Nat.le_of_ble_eq_true rfl, Nat.le_of_ble_eq_true rfl⟩) (pk_V hK hS hAB hPc hDc 0 (ci := 7) rfl rfl rfl) rfl rfl hl.1 rfl (lv_room (Nat.le_of_ble_eq_true rfl)) dX11_mark_28 ⟨Nat.le_of_ble_eq_true rfl, Nat.le_of_ble_eq_true rfl⟩) (fun x11 u12 H locs hw hPD hS => ?_)
  have h13 : (x11.toInt = 1 ∧ 0 ≤ x4.toInt ∧ x4.toInt < v7_holes.toInt) ∨ (x11.toInt = 0 ∧ (x4.toInt < 0 ∨ v7_holes.toInt ≤ x4.toInt)) := hw
  obtain ⟨hP, hD⟩ : PD D A [O11 a11 a7 a5 a3 a2 a6 a4 a10 a9 a1 a0 a8 aN, O7 a7 r7 v7_count v7_holes v7_worms, (cI κ (r7 2) 40 f7_sheetOf), O3 a3 r3 v3_count v3_marks, (cI κ (r3 0) 20 f3_sheetOf), (cI κ (r3 3) 60 f3_markLine), (cI κ (r3 4) 60 f3_markHole), (cI κ (r3 5) 60 f3_markOver)] H := hPD
  refine lv_if_eq (tgt := 41) hx hb dX11_mark_31 (by decide) (fun c14 => ?_) (fun c14 => ?_)
  · have c14 := ci_eq c14
    refine lv_iconst (v := (-1)) hx hb dX11_mark_41 (by decide) ?_
    have hpo : (0 ≤ v3_marks.toInt ∧ v3_marks.toInt ≤ 60) ∧ (∀ j : Nat, 0 ≤ (f3_markLine j).toInt ∧ (f3_markLine j).toInt ≤ 19) ∧ (∀ j : Nat, 0 ≤ (f3_markHole j).toInt ∧ (f3_markHole j).toInt ≤ 39) := ⟨i5, hf3_markLine, hf3_markHole⟩
    exact ret _ _ _ _ (-1) (v3_marks, f3_markLine, f3_markHole, f3_markOver) dX11_mark_42 hpo hP hD hS
  have c14 := ci_ne c14
  refine lv_iload_n hx hb dX11_mark_34 rfl (lv_at hl 4 rfl) ?_
  refine kcm_i hA hAB hP hD hS [false, false, false, false, false, false, false, false] rfl (fun _ => rfl) (fun hPc hDc => va_runS (As := [.int p2]) (rest := []) ⟨hx, hb, hml, hown, hts⟩ (k_X11_isBit l D κ β H.size p2) (va_cwS 1 hts gX11_mark_X11_isBit rfl rfl rfl (by decide +kernel) ⟨Nat.le_of_ble_eq_true rfl, Nat.le_of_ble_eq_true rfl⟩) (pk_S hK hS hAB hPc hDc) rfl rfl hl.1 rfl (lv_room (Nat.le_of_ble_eq_true rfl)) dX11_mark_35 ⟨Nat.le_of_ble_eq_true rfl, Nat.le_of_ble_eq_true rfl⟩) (fun x15 u16 H locs hw hPD hS => ?_)
  have h17 : (x15.toInt = 1 ∧ 0 ≤ p2.toInt ∧ p2.toInt ≤ 1) ∨ (x15.toInt = 0 ∧ (p2.toInt < 0 ∨ 1 < p2.toInt)) := hw
  obtain ⟨hP, hD⟩ : PD D A [O11 a11 a7 a5 a3 a2 a6 a4 a10 a9 a1 a0 a8 aN, O7 a7 r7 v7_count v7_holes v7_worms, (cI κ (r7 2) 40 f7_sheetOf), O3 a3 r3 v3_count v3_marks, (cI κ (r3 0) 20 f3_sheetOf), (cI κ (r3 3) 60 f3_markLine), (cI κ (r3 4) 60 f3_markHole), (cI κ (r3 5) 60 f3_markOver)] H := hPD
  refine lv_if_ne (tgt := 43) hx hb dX11_mark_38 (by decide) (fun c18 => ?_) (fun c18 => ?_)
  · have c18 := ci_ne c18
    refine lv_aload_n hx hb dX11_mark_43 rfl (lv_at hl 2 rfl) ?_
    refine va_get (D := D) (ci := 11) (v := .ref a3) (C := RX11) (T := TX11) (N := 12) hx hb hts w1 hown hK.1 hP 0 rfl rfl 2 (by decide) w0 (fun _ h9 => h9) rfl dX11_mark_44 ?_
    refine va_get (D := D) (ci := 3) (v := .ref (r3 0)) (C := RX3) (T := TX3) (N := 10) hx hb hts w4 hown hK.1 hP 3 rfl rfl 0 (by decide) w3 (fun _ h9 => h9) rfl dX11_mark_47 ?_
    refine lv_iload_n hx hb dX11_mark_50 rfl (lv_at hl 1 rfl) ?_
    refine va_iald hx hb hK.1 hP 4 1 rfl rfl (i := x1) (ix (by omega) (by omega)) dX11_mark_51 ?_
    refine lv_topi (fun x19 e20 => ?_)
    refine lv_aload_n hx hb dX11_mark_52 rfl (lv_at hl 2 rfl) ?_
    refine va_get (D := D) (ci := 11) (v := .ref a7) (C := RX11) (T := TX11) (N := 12) hx hb hts w1 hown hK.1 hP 0 rfl rfl 0 (by decide) w2 (fun _ h9 => h9) rfl dX11_mark_53 ?_
    refine va_get (D := D) (ci := 7) (v := .ref (r7 2)) (C := RX7) (T := TX7) (N := 9) hx hb hts w6 hown hK.1 hP 1 rfl rfl 2 (by decide) w5 (fun _ h9 => h9) rfl dX11_mark_56 ?_
    refine lv_iload hx hb dX11_mark_59 (lv_at hl 0 rfl) ?_
    refine va_iald hx hb hK.1 hP 2 1 rfl rfl (i := x4) (ix (by omega) (by omega)) dX11_mark_61 ?_
    refine lv_topi (fun x21 e22 => ?_)
    have h23 : 0 ≤ x21.toInt ∧ x21.toInt ≤ 7 := by rw [e22]; exact hf7_sheetOf _
    refine lv_icmp_eq (tgt := 67) hx hb dX11_mark_62 (by decide) (fun c24 => ?_) (fun c24 => ?_)
    · have c24 := ci_eq c24
      refine lv_aload_n hx hb dX11_mark_67 rfl (lv_at hl 2 rfl) ?_
      refine va_get (D := D) (ci := 11) (v := .ref a3) (C := RX11) (T := TX11) (N := 12) hx hb hts w1 hown hK.1 hP 0 rfl rfl 2 (by decide) w0 (fun _ h9 => h9) rfl dX11_mark_68 ?_
      refine lv_iload_n hx hb dX11_mark_71 rfl (lv_at hl 1 rfl) ?_
      refine lv_iload hx hb dX11_mark_72 (lv_at hl 0 rfl) ?_
      refine lv_iload_n hx hb dX11_mark_74 rfl (lv_at hl 4 rfl) ?_
      refine kcm_i hA hAB hP hD hS [false, false, false, true, false, true, true, true] rfl (fun _ => rfl) (fun hPc hDc => va_runV (As := [.int x1, .int x4, .int p2]) (rest := []) ⟨hx, hb, hml, hown, hts⟩ (k_X3_tellMark l D κ β a3 r3 v3_count v3_marks f3_markLine f3_markHole f3_markOver H.size x1 x4 p2 i4 i5 hf3_markLine hf3_markHole (by omega) (by omega)) (cwV 3 hts gX11_mark_X3_tellMark rfl rfl rfl (by decide +kernel) ⟨Nat.le_of_ble_eq_true rfl, Nat.le_of_ble_eq_true rfl⟩) (pk_V hK hS hAB hPc hDc 0 (ci := 3) rfl rfl rfl) rfl rfl hl.1 rfl (lv_room (Nat.le_of_ble_eq_true rfl)) dX11_mark_75 ⟨Nat.le_of_ble_eq_true rfl, Nat.le_of_ble_eq_true rfl⟩) (fun x29 u30 H locs hw hPD hS => ?_)
      obtain ⟨x25, g26, g27, g28⟩ := u30
      obtain ⟨h31, h32, h33⟩ : (Rg 0 60 x25) ∧ (∀ j : Nat, 0 ≤ (g26 j).toInt ∧ (g26 j).toInt ≤ 19) ∧ (∀ j : Nat, 0 ≤ (g27 j).toInt ∧ (g27 j).toInt ≤ 39) := hw
      obtain ⟨hP, hD⟩ : PD D A [O11 a11 a7 a5 a3 a2 a6 a4 a10 a9 a1 a0 a8 aN, O7 a7 r7 v7_count v7_holes v7_worms, (cI κ (r7 2) 40 f7_sheetOf), O3 a3 r3 v3_count x25, (cI κ (r3 0) 20 f3_sheetOf), (cI κ (r3 3) 60 g26), (cI κ (r3 4) 60 g27), (cI κ (r3 5) 60 g28)] H := hPD
      have hpo : (0 ≤ x25.toInt ∧ x25.toInt ≤ 60) ∧ (∀ j : Nat, 0 ≤ (g26 j).toInt ∧ (g26 j).toInt ≤ 19) ∧ (∀ j : Nat, 0 ≤ (g27 j).toInt ∧ (g27 j).toInt ≤ 39) := ⟨h31, h32, h33⟩
      exact ret _ _ _ _ x29 (x25, g26, g27, g28) dX11_mark_78 hpo hP hD hS
    have c24 := ci_ne c24
    refine lv_iconst (v := (-1)) hx hb dX11_mark_65 (by decide) ?_
    have hpo : (0 ≤ v3_marks.toInt ∧ v3_marks.toInt ≤ 60) ∧ (∀ j : Nat, 0 ≤ (f3_markLine j).toInt ∧ (f3_markLine j).toInt ≤ 19) ∧ (∀ j : Nat, 0 ≤ (f3_markHole j).toInt ∧ (f3_markHole j).toInt ≤ 39) := ⟨i5, hf3_markLine, hf3_markHole⟩
    exact ret _ _ _ _ (-1) (v3_marks, f3_markLine, f3_markHole, f3_markOver) dX11_mark_66 hpo hP hD hS
  have c18 := ci_eq c18
  refine lv_iconst (v := (-1)) hx hb dX11_mark_41 (by decide) ?_
  have hpo : (0 ≤ v3_marks.toInt ∧ v3_marks.toInt ≤ 60) ∧ (∀ j : Nat, 0 ≤ (f3_markLine j).toInt ∧ (f3_markLine j).toInt ≤ 19) ∧ (∀ j : Nat, 0 ≤ (f3_markHole j).toInt ∧ (f3_markHole j).toInt ≤ 39) := ⟨i5, hf3_markLine, hf3_markHole⟩
  exact ret _ _ _ _ (-1) (v3_marks, f3_markLine, f3_markHole, f3_markOver) dX11_mark_42 hpo hP hD hS
set_option maxHeartbeats 4000000 in
set_option maxRecDepth 100000 in
theorem k_X11_findInks (l : Launch) (D : va_G) (κ : Nat → ClassId) (β : Nat) (a11 : Nat) (a7 : Nat) (a5 : Nat) (a3 : Nat) (a2 : Nat) (a6 : Nat) (a4 : Nat) (a10 : Nat) (a9 : Nat) (a1 : Nat) (a0 : Nat) (a8 : Nat) (aN : Nat) (r7 : Nat → Nat) (r3 : Nat → Nat) (v7_count : Int32) (v7_holes : Int32) (v7_worms : Int32) (f7_sheetOf : Nat → Int32) (f7_placeOf : Nat → Int32) (f7_byPlace : Nat → Int32) (f7_wormOf : Nat → Int32) (f7_wormSheets : Nat → Int32) (v3_count : Int32) (v3_marks : Int32) (f3_inkOf : Nat → Int32) (f3_markLine : Nat → Int32) (f3_markHole : Nat → Int32) (f3_markOver : Nat → Int32) (f3_inksOver : Nat → Int32) (f3_inksRound : Nat → Int32) (f3_inksAhead : Nat → Int32) (sz : Nat) (p1 : Int32) (i1 : Rg 0 8 v7_count) (i2 : Rg 0 40 v7_holes) (i3 : Rg 0 40 v7_worms) (hf7_sheetOf : ∀ j : Nat, 0 ≤ (f7_sheetOf j).toInt ∧ (f7_sheetOf j).toInt ≤ 7) (hf7_byPlace : ∀ j : Nat, 0 ≤ (f7_byPlace j).toInt ∧ (f7_byPlace j).toInt ≤ 39) (hf7_wormOf : ∀ j : Nat, 0 ≤ (f7_wormOf j).toInt ∧ (f7_wormOf j).toInt ≤ 39) (i4 : Rg 0 20 v3_count) (i5 : Rg 0 60 v3_marks) (hf3_markLine : ∀ j : Nat, 0 ≤ (f3_markLine j).toInt ∧ (f3_markLine j).toInt ≤ 19) (hf3_markHole : ∀ j : Nat, 0 ≤ (f3_markHole j).toInt ∧ (f3_markHole j).toInt ≤ 39) : Met l yX11_findInks wsX11_findInks ({ frames := 2, cells := 0, slots := 0, locals := 48 } : Room) (PcK D κ β [O11 a11 a7 a5 a3 a2 a6 a4 a10 a9 a1 a0 a8 aN, O7 a7 r7 v7_count v7_holes v7_worms, (cI κ (r7 2) 40 f7_sheetOf), (cI κ (r7 3) 40 f7_placeOf), (cI κ (r7 4) 40 f7_byPlace), (cI κ (r7 6) 40 f7_wormOf), (cI κ (r7 7) 40 f7_wormSheets), O3 a3 r3 v3_count v3_marks, (cI κ (r3 1) 20 f3_inkOf), (cI κ (r3 3) 60 f3_markLine), (cI κ (r3 4) 60 f3_markHole), (cI κ (r3 5) 60 f3_markOver), (cI κ (r3 7) 40 f3_inksOver), (cI κ (r3 8) 40 f3_inksRound), (cI κ (r3 9) 6 f3_inksAhead)] sz [.ref a11, .int p1]) (QvK D (fun (u : Int32 × (Nat → Int32) × (Nat → Int32) × (Nat → Int32) × (Nat → Int32) × (Nat → Int32)) => (0 ≤ u.1.toInt ∧ u.1.toInt ≤ 40) ∧ (∀ j : Nat, 0 ≤ (u.2.1 j).toInt ∧ (u.2.1 j).toInt ≤ 39)) (fun (u : Int32 × (Nat → Int32) × (Nat → Int32) × (Nat → Int32) × (Nat → Int32) × (Nat → Int32)) => [O11 a11 a7 a5 a3 a2 a6 a4 a10 a9 a1 a0 a8 aN, O7 a7 r7 v7_count v7_holes u.1, (cI κ (r7 2) 40 f7_sheetOf), (cI κ (r7 3) 40 f7_placeOf), (cI κ (r7 4) 40 f7_byPlace), (cI κ (r7 6) 40 u.2.1), (cI κ (r7 7) 40 u.2.2.1), O3 a3 r3 v3_count v3_marks, (cI κ (r3 1) 20 f3_inkOf), (cI κ (r3 3) 60 f3_markLine), (cI κ (r3 4) 60 f3_markHole), (cI κ (r3 5) 60 f3_markOver), (cI κ (r3 7) 40 u.2.2.2.1), (cI κ (r3 8) 40 u.2.2.2.2.1), (cI κ (r3 9) 6 u.2.2.2.2.2)]) [O11 a11 a7 a5 a3 a2 a6 a4 a10 a9 a1 a0 a8 aN, O7 a7 r7 v7_count v7_holes v7_worms, (cI κ (r7 2) 40 f7_sheetOf), (cI κ (r7 3) 40 f7_placeOf), (cI κ (r7 4) 40 f7_byPlace), (cI κ (r7 6) 40 f7_wormOf), (cI κ (r7 7) 40 f7_wormSheets), O3 a3 r3 v3_count v3_marks, (cI κ (r3 1) 20 f3_inkOf), (cI κ (r3 3) 60 f3_markLine), (cI κ (r3 4) 60 f3_markHole), (cI κ (r3 5) 60 f3_markOver), (cI κ (r3 7) 40 f3_inksOver), (cI κ (r3 8) 40 f3_inksRound), (cI κ (r3 9) 6 f3_inksAhead)] sz) 0 0 (va_A [O11 a11 a7 a5 a3 a2 a6 a4 a10 a9 a1 a0 a8 aN, O7 a7 r7 v7_count v7_holes v7_worms, (cI κ (r7 2) 40 f7_sheetOf), (cI κ (r7 3) 40 f7_placeOf), (cI κ (r7 4) 40 f7_byPlace), (cI κ (r7 6) 40 f7_wormOf), (cI κ (r7 7) 40 f7_wormSheets), O3 a3 r3 v3_count v3_marks, (cI κ (r3 1) 20 f3_inkOf), (cI κ (r3 3) 60 f3_markLine), (cI κ (r3 4) 60 f3_markHole), (cI κ (r3 5) 60 f3_markOver), (cI κ (r3 7) 40 f3_inksOver), (cI κ (r3 8) 40 f3_inksRound), (cI κ (r3 9) 6 f3_inksAhead)] sz) := by
  refine ofK_v (cc := cX11_findInks) (maxL := 2) (own := RX11) (by decide) rfl rfl (Nat.le_of_ble_eq_true rfl) ?_
  intro p e s m args below meth c Q A ls hsz hx hb hml hts hown hK hA hAB hP hD hl hname ret
  have hS : va_S A s.heap s.heap [] := va_S.rf
  have hl : lv_has ls 2 [(0, .ref a11), (1, .int p1)] := hl
  have w0 := hts (.fieldLink RX11 10 "OlderSkin" "sheets" "LOlderSkin$Sheets;") (List.mem_of_getElem? (i := 1) rfl)
  have w1 := (fun w h => List.mem_cons_of_mem _ (List.mem_append_left _ (List.mem_append_left _ (List.mem_append_right _ h))) : ∀ w ∈ u_ws RX11 TX11 12, w ∈ wsX11_findInks)
  have w2 := hts (.fieldLink RX11 26 "OlderSkin" "lines" "LOlderSkin$Lines;") (List.mem_of_getElem? (i := 2) rfl)
  have w3 := hts (.fieldLink RX11 141 "OlderSkin$Sheets" "wormOf" "[I") (List.mem_of_getElem? (i := 3) rfl)
  have w4 := (fun w h => List.mem_cons_of_mem _ (List.mem_append_left _ (List.mem_append_right _ h)) : ∀ w ∈ u_ws RX7 TX7 9, w ∈ wsX11_findInks)
  have w5 := hts (.fieldLink RX11 131 "OlderSkin$Sheets" "worms" "I") (List.mem_of_getElem? (i := 4) rfl)
  have i3 : 0 ≤ v7_worms.toInt ∧ v7_worms.toInt ≤ 40 := i3
  refine lv_aload_n hx hb dX11_findInks_0 rfl (lv_at hl 0 rfl) ?_
  refine va_get (D := D) (ci := 11) (v := .ref a7) (C := RX11) (T := TX11) (N := 12) hx hb hts w1 hown hK.1 hP 0 rfl rfl 0 (by decide) w0 (fun _ h9 => h9) rfl dX11_findInks_1 ?_
  refine lv_iload_n hx hb dX11_findInks_4 rfl (lv_at hl 1 rfl) ?_
  refine lv_aload_n hx hb dX11_findInks_5 rfl (lv_at hl 0 rfl) ?_
  refine va_get (D := D) (ci := 11) (v := .ref a7) (C := RX11) (T := TX11) (N := 12) hx hb hts w1 hown hK.1 hP 0 rfl rfl 0 (by decide) w0 (fun _ h9 => h9) rfl dX11_findInks_6 ?_
  refine kcm_i hA hAB hP hD hS [false, true, false, false, false, false, false, false, false, false, false, false, false, false, false] rfl (fun _ => rfl) (fun hPc hDc => va_runV (As := []) (rest := [.int p1, .ref a7]) ⟨hx, hb, hml, hown, hts⟩ (k_X7_all l D κ β a7 r7 v7_count v7_holes v7_worms s.heap.size i1 i2 i3) (cwV 0 hts gX11_findInks_X7_all rfl rfl rfl (by decide +kernel) ⟨Nat.le_of_ble_eq_true rfl, Nat.le_of_ble_eq_true rfl⟩) (pk_V hK hS hAB hPc hDc 0 (ci := 7) rfl rfl rfl) rfl rfl hl.1 rfl (lv_room (Nat.le_of_ble_eq_true rfl)) dX11_findInks_9 ⟨Nat.le_of_ble_eq_true rfl, Nat.le_of_ble_eq_true rfl⟩) (fun x1 u2 H locs hw hPD hS => ?_)
  have h3 : 0 ≤ x1.toInt ∧ x1.toInt ≤ 255 := hw
  obtain ⟨hP, hD⟩ : PD D A [O11 a11 a7 a5 a3 a2 a6 a4 a10 a9 a1 a0 a8 aN, O7 a7 r7 v7_count v7_holes v7_worms, (cI κ (r7 2) 40 f7_sheetOf), (cI κ (r7 3) 40 f7_placeOf), (cI κ (r7 4) 40 f7_byPlace), (cI κ (r7 6) 40 f7_wormOf), (cI κ (r7 7) 40 f7_wormSheets), O3 a3 r3 v3_count v3_marks, (cI κ (r3 1) 20 f3_inkOf), (cI κ (r3 3) 60 f3_markLine), (cI κ (r3 4) 60 f3_markHole), (cI κ (r3 5) 60 f3_markOver), (cI κ (r3 7) 40 f3_inksOver), (cI κ (r3 8) 40 f3_inksRound), (cI κ (r3 9) 6 f3_inksAhead)] H := hPD
  refine kcm_v hA hAB hP hD hS [false, true, true, true, true, true, true, false, false, false, false, false, false, false, false] rfl (fun _ => rfl) (fun hPc hDc => va_runV (As := [.int p1, .int x1]) (rest := []) ⟨hx, hb, hml, hown, hts⟩ (k_X7_findWorms l D κ β a7 r7 v7_count v7_holes v7_worms f7_sheetOf f7_placeOf f7_byPlace f7_wormOf f7_wormSheets H.size p1 x1 i1 i2 i3 hf7_sheetOf hf7_byPlace hf7_wormOf) (cwV 2 hts gX11_findInks_X7_findWorms rfl rfl rfl (by decide +kernel) ⟨Nat.le_of_ble_eq_true rfl, Nat.le_of_ble_eq_true rfl⟩) (pk_V hK hS hAB hPc hDc 0 (ci := 7) rfl rfl rfl) rfl rfl hl.1 rfl (lv_room (Nat.le_of_ble_eq_true rfl)) dX11_findInks_12 ⟨Nat.le_of_ble_eq_true rfl, Nat.le_of_ble_eq_true rfl⟩) (fun u7 H locs hw hPD hS => ?_)
  obtain ⟨x4, g5, g6⟩ := u7
  obtain ⟨h8, h9⟩ : (0 ≤ x4.toInt ∧ x4.toInt ≤ 40) ∧ (∀ j : Nat, 0 ≤ (g5 j).toInt ∧ (g5 j).toInt ≤ 39) := hw
  obtain ⟨hP, hD⟩ : PD D A [O11 a11 a7 a5 a3 a2 a6 a4 a10 a9 a1 a0 a8 aN, O7 a7 r7 v7_count v7_holes x4, (cI κ (r7 2) 40 f7_sheetOf), (cI κ (r7 3) 40 f7_placeOf), (cI κ (r7 4) 40 f7_byPlace), (cI κ (r7 6) 40 g5), (cI κ (r7 7) 40 g6), O3 a3 r3 v3_count v3_marks, (cI κ (r3 1) 20 f3_inkOf), (cI κ (r3 3) 60 f3_markLine), (cI κ (r3 4) 60 f3_markHole), (cI κ (r3 5) 60 f3_markOver), (cI κ (r3 7) 40 f3_inksOver), (cI κ (r3 8) 40 f3_inksRound), (cI κ (r3 9) 6 f3_inksAhead)] H := hPD
  refine lv_aload_n hx hb dX11_findInks_15 rfl (lv_at hl 0 rfl) ?_
  refine va_get (D := D) (ci := 11) (v := .ref a3) (C := RX11) (T := TX11) (N := 12) hx hb hts w1 hown hK.1 hP 0 rfl rfl 2 (by decide) w2 (fun _ h9 => h9) rfl dX11_findInks_16 ?_
  refine lv_aload_n hx hb dX11_findInks_19 rfl (lv_at hl 0 rfl) ?_
  refine va_get (D := D) (ci := 11) (v := .ref a7) (C := RX11) (T := TX11) (N := 12) hx hb hts w1 hown hK.1 hP 0 rfl rfl 0 (by decide) w0 (fun _ h9 => h9) rfl dX11_findInks_20 ?_
  refine va_get (D := D) (ci := 7) (v := .ref (r7 6)) (C := RX7) (T := TX7) (N := 9) hx hb hts w4 hown hK.1 hP 1 rfl rfl 6 (by decide) w3 (fun _ h9 => h9) rfl dX11_findInks_23 ?_
  refine lv_aload_n hx hb dX11_findInks_26 rfl (lv_at hl 0 rfl) ?_
  refine va_get (D := D) (ci := 11) (v := .ref a7) (C := RX11) (T := TX11) (N := 12) hx hb hts w1 hown hK.1 hP 0 rfl rfl 0 (by decide) w0 (fun _ h9 => h9) rfl dX11_findInks_27 ?_
  refine va_get (D := D) (ci := 7) (v := .int x4) (C := RX7) (T := TX7) (N := 9) hx hb hts w4 hown hK.1 hP 1 rfl rfl 8 (by decide) w5 (fun _ h9 => h9) rfl dX11_findInks_30 ?_
  refine kc_v hA hAB hP hD hS (wc := [O3 a3 r3 v3_count v3_marks, (cI κ (r3 1) 20 f3_inkOf), (cI κ (r3 3) 60 f3_markLine), (cI κ (r3 4) 60 f3_markHole), (cI κ (r3 5) 60 f3_markOver), (cI κ (r3 7) 40 f3_inksOver), (cI κ (r3 8) 40 f3_inksRound), (cI κ (r3 9) 6 f3_inksAhead), (cI κ (r7 6) 40 g5)]) (wr := [O11 a11 a7 a5 a3 a2 a6 a4 a10 a9 a1 a0 a8 aN, O7 a7 r7 v7_count v7_holes x4, (cI κ (r7 2) 40 f7_sheetOf), (cI κ (r7 3) 40 f7_placeOf), (cI κ (r7 4) 40 f7_byPlace), (cI κ (r7 7) 40 g6)]) [7, 8, 9, 10, 11, 12, 13, 14, 5] [0, 1, 2, 3, 4, 6] rfl rfl (by decide) (by decide) (by decide) (fun hPc hDc => va_runV (As := [.ref (r7 6), .int x4]) (rest := []) ⟨hx, hb, hml, hown, hts⟩ (k_X3_findInks l D κ β a3 r3 v3_count v3_marks f3_inkOf f3_markLine f3_markHole f3_markOver f3_inksOver f3_inksRound f3_inksAhead g5 H.size (r7 6) x4 i4 i5 hf3_markLine hf3_markHole h9 (by omega)) (cwV 2 hts gX11_findInks_X3_findInks rfl rfl rfl (by decide +kernel) ⟨Nat.le_of_ble_eq_true rfl, Nat.le_of_ble_eq_true rfl⟩) (pk_V hK hS hAB hPc hDc 0 (ci := 3) rfl rfl rfl) rfl rfl hl.1 rfl (lv_room (Nat.le_of_ble_eq_true rfl)) dX11_findInks_33 ⟨Nat.le_of_ble_eq_true rfl, Nat.le_of_ble_eq_true rfl⟩) (fun u13 H locs hw hP hD hS => ?_)
  obtain ⟨g10, g11, g12⟩ := u13
  obtain ⟨hP, hD⟩ : PD D A [O11 a11 a7 a5 a3 a2 a6 a4 a10 a9 a1 a0 a8 aN, O7 a7 r7 v7_count v7_holes x4, (cI κ (r7 2) 40 f7_sheetOf), (cI κ (r7 3) 40 f7_placeOf), (cI κ (r7 4) 40 f7_byPlace), (cI κ (r7 7) 40 g6), O3 a3 r3 v3_count v3_marks, (cI κ (r3 1) 20 f3_inkOf), (cI κ (r3 3) 60 f3_markLine), (cI κ (r3 4) 60 f3_markHole), (cI κ (r3 5) 60 f3_markOver), (cI κ (r3 7) 40 g10), (cI κ (r3 8) 40 g11), (cI κ (r3 9) 6 g12), (cI κ (r7 6) 40 g5)] H := ⟨hP, hD⟩
  obtain ⟨hP, hD⟩ : PD D A [O11 a11 a7 a5 a3 a2 a6 a4 a10 a9 a1 a0 a8 aN, O7 a7 r7 v7_count v7_holes x4, (cI κ (r7 2) 40 f7_sheetOf), (cI κ (r7 3) 40 f7_placeOf), (cI κ (r7 4) 40 f7_byPlace), (cI κ (r7 6) 40 g5), (cI κ (r7 7) 40 g6), O3 a3 r3 v3_count v3_marks, (cI κ (r3 1) 20 f3_inkOf), (cI κ (r3 3) 60 f3_markLine), (cI κ (r3 4) 60 f3_markHole), (cI κ (r3 5) 60 f3_markOver), (cI κ (r3 7) 40 g10), (cI κ (r3 8) 40 g11), (cI κ (r3 9) 6 g12)] H := ⟨hP.sub [0, 1, 2, 3, 4, 14, 5, 6, 7, 8, 9, 10, 11, 12, 13] rfl, hD.sub [0, 1, 2, 3, 4, 14, 5, 6, 7, 8, 9, 10, 11, 12, 13] (by decide) rfl⟩
  have hpo : (0 ≤ x4.toInt ∧ x4.toInt ≤ 40) ∧ (∀ j : Nat, 0 ≤ (g5 j).toInt ∧ (g5 j).toInt ≤ 39) := ⟨h8, h9⟩
  exact ret _ _ _ _ (x4, g5, g6, g10, g11, g12) dX11_findInks_36 hpo hP hD hS
set_option maxHeartbeats 4000000 in
set_option maxRecDepth 100000 in
theorem k_X11_fight (l : Launch) (D : va_G) (κ : Nat → ClassId) (β : Nat) (a11 : Nat) (a7 : Nat) (a5 : Nat) (a3 : Nat) (a2 : Nat) (a6 : Nat) (a4 : Nat) (a10 : Nat) (a9 : Nat) (a1 : Nat) (a0 : Nat) (a8 : Nat) (aN : Nat) (r7 : Nat → Nat) (r3 : Nat → Nat) (v7_count : Int32) (v7_holes : Int32) (v7_worms : Int32) (f7_sheetOf : Nat → Int32) (f7_placeOf : Nat → Int32) (f7_byPlace : Nat → Int32) (f7_wormOf : Nat → Int32) (f7_wormSheets : Nat → Int32) (v3_count : Int32) (v3_marks : Int32) (f3_inkOf : Nat → Int32) (f3_markLine : Nat → Int32) (f3_markHole : Nat → Int32) (f3_markOver : Nat → Int32) (f3_inksOver : Nat → Int32) (f3_inksRound : Nat → Int32) (f3_inksAhead : Nat → Int32) (sz : Nat) (p1 : Int32) (p2 : Int32) (i1 : Rg 0 8 v7_count) (i2 : Rg 0 40 v7_holes) (i3 : Rg 0 40 v7_worms) (hf7_sheetOf : ∀ j : Nat, 0 ≤ (f7_sheetOf j).toInt ∧ (f7_sheetOf j).toInt ≤ 7) (hf7_byPlace : ∀ j : Nat, 0 ≤ (f7_byPlace j).toInt ∧ (f7_byPlace j).toInt ≤ 39) (hf7_wormOf : ∀ j : Nat, 0 ≤ (f7_wormOf j).toInt ∧ (f7_wormOf j).toInt ≤ 39) (i4 : Rg 0 20 v3_count) (i5 : Rg 0 60 v3_marks) (hf3_markLine : ∀ j : Nat, 0 ≤ (f3_markLine j).toInt ∧ (f3_markLine j).toInt ≤ 19) (hf3_markHole : ∀ j : Nat, 0 ≤ (f3_markHole j).toInt ∧ (f3_markHole j).toInt ≤ 39) : Met l yX11_fight wsX11_fight ({ frames := 3, cells := 0, slots := 0, locals := 69 } : Room) (PcK D κ β [O11 a11 a7 a5 a3 a2 a6 a4 a10 a9 a1 a0 a8 aN, O7 a7 r7 v7_count v7_holes v7_worms, (cI κ (r7 2) 40 f7_sheetOf), (cI κ (r7 3) 40 f7_placeOf), (cI κ (r7 4) 40 f7_byPlace), (cI κ (r7 6) 40 f7_wormOf), (cI κ (r7 7) 40 f7_wormSheets), O3 a3 r3 v3_count v3_marks, (cI κ (r3 1) 20 f3_inkOf), (cI κ (r3 3) 60 f3_markLine), (cI κ (r3 4) 60 f3_markHole), (cI κ (r3 5) 60 f3_markOver), (cI κ (r3 7) 40 f3_inksOver), (cI κ (r3 8) 40 f3_inksRound), (cI κ (r3 9) 6 f3_inksAhead)] sz [.ref a11, .int p1, .int p2]) (QiK D (fun (r : Int32) (u : Int32 × (Nat → Int32) × (Nat → Int32) × (Nat → Int32) × (Nat → Int32) × (Nat → Int32)) => (0 ≤ u.1.toInt ∧ u.1.toInt ≤ 40) ∧ (∀ j : Nat, 0 ≤ (u.2.1 j).toInt ∧ (u.2.1 j).toInt ≤ 39)) (fun (u : Int32 × (Nat → Int32) × (Nat → Int32) × (Nat → Int32) × (Nat → Int32) × (Nat → Int32)) => [O11 a11 a7 a5 a3 a2 a6 a4 a10 a9 a1 a0 a8 aN, O7 a7 r7 v7_count v7_holes u.1, (cI κ (r7 2) 40 f7_sheetOf), (cI κ (r7 3) 40 f7_placeOf), (cI κ (r7 4) 40 f7_byPlace), (cI κ (r7 6) 40 u.2.1), (cI κ (r7 7) 40 u.2.2.1), O3 a3 r3 v3_count v3_marks, (cI κ (r3 1) 20 f3_inkOf), (cI κ (r3 3) 60 f3_markLine), (cI κ (r3 4) 60 f3_markHole), (cI κ (r3 5) 60 f3_markOver), (cI κ (r3 7) 40 u.2.2.2.1), (cI κ (r3 8) 40 u.2.2.2.2.1), (cI κ (r3 9) 6 u.2.2.2.2.2)]) [O11 a11 a7 a5 a3 a2 a6 a4 a10 a9 a1 a0 a8 aN, O7 a7 r7 v7_count v7_holes v7_worms, (cI κ (r7 2) 40 f7_sheetOf), (cI κ (r7 3) 40 f7_placeOf), (cI κ (r7 4) 40 f7_byPlace), (cI κ (r7 6) 40 f7_wormOf), (cI κ (r7 7) 40 f7_wormSheets), O3 a3 r3 v3_count v3_marks, (cI κ (r3 1) 20 f3_inkOf), (cI κ (r3 3) 60 f3_markLine), (cI κ (r3 4) 60 f3_markHole), (cI κ (r3 5) 60 f3_markOver), (cI κ (r3 7) 40 f3_inksOver), (cI κ (r3 8) 40 f3_inksRound), (cI κ (r3 9) 6 f3_inksAhead)] sz) 0 0 (va_A [O11 a11 a7 a5 a3 a2 a6 a4 a10 a9 a1 a0 a8 aN, O7 a7 r7 v7_count v7_holes v7_worms, (cI κ (r7 2) 40 f7_sheetOf), (cI κ (r7 3) 40 f7_placeOf), (cI κ (r7 4) 40 f7_byPlace), (cI κ (r7 6) 40 f7_wormOf), (cI κ (r7 7) 40 f7_wormSheets), O3 a3 r3 v3_count v3_marks, (cI κ (r3 1) 20 f3_inkOf), (cI κ (r3 3) 60 f3_markLine), (cI κ (r3 4) 60 f3_markHole), (cI κ (r3 5) 60 f3_markOver), (cI κ (r3 7) 40 f3_inksOver), (cI κ (r3 8) 40 f3_inksRound), (cI κ (r3 9) 6 f3_inksAhead)] sz) := by
  refine ofK_i (cc := cX11_fight) (maxL := 4) (own := RX11) (by decide) rfl rfl (Nat.le_of_ble_eq_true rfl) ?_
  intro p e s m args below meth c Q A ls hsz hx hb hml hts hown hK hA hAB hP hD hl ret
  have hS : va_S A s.heap s.heap [] := va_S.rf
  have hl : lv_has ls 4 [(0, .ref a11), (1, .int p1), (2, .int p2)] := hl
  have w0 := hts (.fieldLink RX11 26 "OlderSkin" "lines" "LOlderSkin$Lines;") (List.mem_of_getElem? (i := 1) rfl)
  have w1 := (fun w h => List.mem_cons_of_mem _ (List.mem_append_left _ (List.mem_append_left _ (List.mem_append_right _ h))) : ∀ w ∈ u_ws RX11 TX11 12, w ∈ wsX11_fight)
  have w2 := hts (.fieldLink RX11 10 "OlderSkin" "sheets" "LOlderSkin$Sheets;") (List.mem_of_getElem? (i := 2) rfl)
  have w3 := hts (.fieldLink RX11 141 "OlderSkin$Sheets" "wormOf" "[I") (List.mem_of_getElem? (i := 3) rfl)
  have w4 := (fun w h => List.mem_cons_of_mem _ (List.mem_append_left _ (List.mem_append_right _ h)) : ∀ w ∈ u_ws RX7 TX7 9, w ∈ wsX11_fight)
  have l0 : (0 : Int32).toInt = 0 := by decide
  have l1 : ((-1) : Int32).toInt = -1 := by decide
  have l2 : ((-2) : Int32).toInt = -2 := by decide
  have i4 : 0 ≤ v3_count.toInt ∧ v3_count.toInt ≤ 20 := i4
  refine lv_iload_n hx hb dX11_fight_0 rfl (lv_at hl 1 rfl) ?_
  refine kcm_i hA hAB hP hD hS [false, false, false, false, false, false, false, false, false, false, false, false, false, false, false] rfl (fun _ => rfl) (fun hPc hDc => va_runS (As := [.int p1]) (rest := []) ⟨hx, hb, hml, hown, hts⟩ (k_X11_isSlack l D κ β s.heap.size p1) (va_cwS 1 hts gX11_fight_X11_isSlack rfl rfl rfl (by decide +kernel) ⟨Nat.le_of_ble_eq_true rfl, Nat.le_of_ble_eq_true rfl⟩) (pk_S hK hS hAB hPc hDc) rfl rfl hl.1 rfl (lv_room (Nat.le_of_ble_eq_true rfl)) dX11_fight_1 ⟨Nat.le_of_ble_eq_true rfl, Nat.le_of_ble_eq_true rfl⟩) (fun x1 u2 H locs hw hPD hS => ?_)
  have h3 : (x1.toInt = 1 ∧ 0 ≤ p1.toInt ∧ p1.toInt ≤ 99) ∨ (x1.toInt = 0 ∧ (p1.toInt < 0 ∨ 99 < p1.toInt)) := hw
  obtain ⟨hP, hD⟩ : PD D A [O11 a11 a7 a5 a3 a2 a6 a4 a10 a9 a1 a0 a8 aN, O7 a7 r7 v7_count v7_holes v7_worms, (cI κ (r7 2) 40 f7_sheetOf), (cI κ (r7 3) 40 f7_placeOf), (cI κ (r7 4) 40 f7_byPlace), (cI κ (r7 6) 40 f7_wormOf), (cI κ (r7 7) 40 f7_wormSheets), O3 a3 r3 v3_count v3_marks, (cI κ (r3 1) 20 f3_inkOf), (cI κ (r3 3) 60 f3_markLine), (cI κ (r3 4) 60 f3_markHole), (cI κ (r3 5) 60 f3_markOver), (cI κ (r3 7) 40 f3_inksOver), (cI κ (r3 8) 40 f3_inksRound), (cI κ (r3 9) 6 f3_inksAhead)] H := hPD
  refine lv_if_eq (tgt := 14) hx hb dX11_fight_4 (by decide) (fun c4 => ?_) (fun c4 => ?_)
  · have c4 := ci_eq c4
    refine lv_iconst (v := (-1)) hx hb dX11_fight_14 (by decide) ?_
    have hpo : (0 ≤ v7_worms.toInt ∧ v7_worms.toInt ≤ 40) ∧ (∀ j : Nat, 0 ≤ (f7_wormOf j).toInt ∧ (f7_wormOf j).toInt ≤ 39) := ⟨i3, hf7_wormOf⟩
    exact ret _ _ _ _ (-1) (v7_worms, f7_wormOf, f7_wormSheets, f3_inksOver, f3_inksRound, f3_inksAhead) dX11_fight_15 hpo hP hD hS
  have c4 := ci_ne c4
  refine lv_iload_n hx hb dX11_fight_7 rfl (lv_at hl 2 rfl) ?_
  refine kcm_i hA hAB hP hD hS [false, false, false, false, false, false, false, false, false, false, false, false, false, false, false] rfl (fun _ => rfl) (fun hPc hDc => va_runS (As := [.int p2]) (rest := []) ⟨hx, hb, hml, hown, hts⟩ (k_X11_isBit l D κ β H.size p2) (va_cwS 1 hts gX11_fight_X11_isBit rfl rfl rfl (by decide +kernel) ⟨Nat.le_of_ble_eq_true rfl, Nat.le_of_ble_eq_true rfl⟩) (pk_S hK hS hAB hPc hDc) rfl rfl hl.1 rfl (lv_room (Nat.le_of_ble_eq_true rfl)) dX11_fight_8 ⟨Nat.le_of_ble_eq_true rfl, Nat.le_of_ble_eq_true rfl⟩) (fun x5 u6 H locs hw hPD hS => ?_)
  have h7 : (x5.toInt = 1 ∧ 0 ≤ p2.toInt ∧ p2.toInt ≤ 1) ∨ (x5.toInt = 0 ∧ (p2.toInt < 0 ∨ 1 < p2.toInt)) := hw
  obtain ⟨hP, hD⟩ : PD D A [O11 a11 a7 a5 a3 a2 a6 a4 a10 a9 a1 a0 a8 aN, O7 a7 r7 v7_count v7_holes v7_worms, (cI κ (r7 2) 40 f7_sheetOf), (cI κ (r7 3) 40 f7_placeOf), (cI κ (r7 4) 40 f7_byPlace), (cI κ (r7 6) 40 f7_wormOf), (cI κ (r7 7) 40 f7_wormSheets), O3 a3 r3 v3_count v3_marks, (cI κ (r3 1) 20 f3_inkOf), (cI κ (r3 3) 60 f3_markLine), (cI κ (r3 4) 60 f3_markHole), (cI κ (r3 5) 60 f3_markOver), (cI κ (r3 7) 40 f3_inksOver), (cI κ (r3 8) 40 f3_inksRound), (cI κ (r3 9) 6 f3_inksAhead)] H := hPD
  refine lv_if_ne (tgt := 16) hx hb dX11_fight_11 (by decide) (fun c8 => ?_) (fun c8 => ?_)
  · have c8 := ci_ne c8
    refine lv_aload_n hx hb dX11_fight_16 rfl (lv_at hl 0 rfl) ?_
    refine lv_iload_n hx hb dX11_fight_17 rfl (lv_at hl 1 rfl) ?_
    refine kcm_v hA hAB hP hD hS [true, true, true, true, true, true, true, true, true, true, true, true, true, true, true] rfl (fun _ => rfl) (fun hPc hDc => va_runV (As := [.int p1]) (rest := []) ⟨hx, hb, hml, hown, hts⟩ (k_X11_findInks l D κ β a11 a7 a5 a3 a2 a6 a4 a10 a9 a1 a0 a8 aN r7 r3 v7_count v7_holes v7_worms f7_sheetOf f7_placeOf f7_byPlace f7_wormOf f7_wormSheets v3_count v3_marks f3_inkOf f3_markLine f3_markHole f3_markOver f3_inksOver f3_inksRound f3_inksAhead H.size p1 i1 i2 i3 hf7_sheetOf hf7_byPlace hf7_wormOf i4 i5 hf3_markLine hf3_markHole) (cwV 1 hts gX11_fight_X11_findInks rfl rfl rfl (by decide +kernel) ⟨Nat.le_of_ble_eq_true rfl, Nat.le_of_ble_eq_true rfl⟩) (pk_V hK hS hAB hPc hDc 0 (ci := 11) rfl rfl rfl) rfl rfl hl.1 rfl (lv_room (Nat.le_of_ble_eq_true rfl)) dX11_fight_18 ⟨Nat.le_of_ble_eq_true rfl, Nat.le_of_ble_eq_true rfl⟩) (fun u15 H locs hw hPD hS => ?_)
    obtain ⟨x9, g10, g11, g12, g13, g14⟩ := u15
    obtain ⟨h16, h17⟩ : (Rg 0 40 x9) ∧ (∀ j : Nat, 0 ≤ (g10 j).toInt ∧ (g10 j).toInt ≤ 39) := hw
    obtain ⟨hP, hD⟩ : PD D A [O11 a11 a7 a5 a3 a2 a6 a4 a10 a9 a1 a0 a8 aN, O7 a7 r7 v7_count v7_holes x9, (cI κ (r7 2) 40 f7_sheetOf), (cI κ (r7 3) 40 f7_placeOf), (cI κ (r7 4) 40 f7_byPlace), (cI κ (r7 6) 40 g10), (cI κ (r7 7) 40 g11), O3 a3 r3 v3_count v3_marks, (cI κ (r3 1) 20 f3_inkOf), (cI κ (r3 3) 60 f3_markLine), (cI κ (r3 4) 60 f3_markHole), (cI κ (r3 5) 60 f3_markOver), (cI κ (r3 7) 40 g12), (cI κ (r3 8) 40 g13), (cI κ (r3 9) 6 g14)] H := hPD
    refine lv_aload_n hx hb dX11_fight_21 rfl (lv_at hl 0 rfl) ?_
    refine va_get (D := D) (ci := 11) (v := .ref a3) (C := RX11) (T := TX11) (N := 12) hx hb hts w1 hown hK.1 hP 0 rfl rfl 2 (by decide) w0 (fun _ h9 => h9) rfl dX11_fight_22 ?_
    refine lv_aload_n hx hb dX11_fight_25 rfl (lv_at hl 0 rfl) ?_
    refine va_get (D := D) (ci := 11) (v := .ref a7) (C := RX11) (T := TX11) (N := 12) hx hb hts w1 hown hK.1 hP 0 rfl rfl 0 (by decide) w2 (fun _ h9 => h9) rfl dX11_fight_26 ?_
    refine va_get (D := D) (ci := 7) (v := .ref (r7 6)) (C := RX7) (T := TX7) (N := 9) hx hb hts w4 hown hK.1 hP 1 rfl rfl 6 (by decide) w3 (fun _ h9 => h9) rfl dX11_fight_29 ?_
    refine kc_i hA hAB hP hD hS (wc := [O3 a3 r3 v3_count v3_marks, (cI κ (r3 1) 20 f3_inkOf), (cI κ (r3 3) 60 f3_markLine), (cI κ (r3 4) 60 f3_markHole), (cI κ (r3 5) 60 f3_markOver), (cI κ (r3 8) 40 g13), (cI κ (r7 6) 40 g10)]) (wr := [O11 a11 a7 a5 a3 a2 a6 a4 a10 a9 a1 a0 a8 aN, O7 a7 r7 v7_count v7_holes x9, (cI κ (r7 2) 40 f7_sheetOf), (cI κ (r7 3) 40 f7_placeOf), (cI κ (r7 4) 40 f7_byPlace), (cI κ (r7 7) 40 g11), (cI κ (r3 7) 40 g12), (cI κ (r3 9) 6 g14)]) [7, 8, 9, 10, 11, 13, 5] [0, 1, 2, 3, 4, 6, 12, 14] rfl rfl (by decide) (by decide) (by decide) (fun hPc hDc => va_runV (As := [.ref (r7 6)]) (rest := []) ⟨hx, hb, hml, hown, hts⟩ (k_X3_firstFighting l D κ β a3 r3 v3_count v3_marks f3_inkOf f3_markLine f3_markHole f3_markOver g13 g10 H.size (r7 6) i4 i5 hf3_markLine hf3_markHole h17) (cwV 1 hts gX11_fight_X3_firstFighting rfl rfl rfl (by decide +kernel) ⟨Nat.le_of_ble_eq_true rfl, Nat.le_of_ble_eq_true rfl⟩) (pk_V hK hS hAB hPc hDc 0 (ci := 3) rfl rfl rfl) rfl rfl hl.1 rfl (lv_room (Nat.le_of_ble_eq_true rfl)) dX11_fight_32 ⟨Nat.le_of_ble_eq_true rfl, Nat.le_of_ble_eq_true rfl⟩) (fun x18 u19 H locs hw hP hD hS => ?_)
    have h20 : -1 ≤ x18.toInt ∧ x18.toInt < v3_count.toInt := hw
    obtain ⟨hP, hD⟩ : PD D A [O11 a11 a7 a5 a3 a2 a6 a4 a10 a9 a1 a0 a8 aN, O7 a7 r7 v7_count v7_holes x9, (cI κ (r7 2) 40 f7_sheetOf), (cI κ (r7 3) 40 f7_placeOf), (cI κ (r7 4) 40 f7_byPlace), (cI κ (r7 7) 40 g11), (cI κ (r3 7) 40 g12), (cI κ (r3 9) 6 g14), O3 a3 r3 v3_count v3_marks, (cI κ (r3 1) 20 f3_inkOf), (cI κ (r3 3) 60 f3_markLine), (cI κ (r3 4) 60 f3_markHole), (cI κ (r3 5) 60 f3_markOver), (cI κ (r3 8) 40 g13), (cI κ (r7 6) 40 g10)] H := ⟨hP, hD⟩
    refine lv_istore_n (lv' := [(3, .int x18), (0, .ref a11), (1, .int p1), (2, .int p2)]) hx hb dX11_fight_35 rfl hl (by decide) rfl (fun ls hl => ?_)
    refine lv_iload_n hx hb dX11_fight_36 rfl (lv_at hl 0 rfl) ?_
    refine lv_if_ge (tgt := 43) hx hb dX11_fight_37 (by decide) (fun c21 => ?_) (fun c21 => ?_)
    · have c21 := ci_le c21
      refine lv_iload_n hx hb dX11_fight_43 rfl (lv_at hl 3 rfl) ?_
      refine lv_if_ne (tgt := 51) hx hb dX11_fight_44 (by decide) (fun c22 => ?_) (fun c22 => ?_)
      · have c22 := ci_ne c22
        refine lv_aload_n hx hb dX11_fight_51 rfl (lv_at hl 1 rfl) ?_
        refine va_get (D := D) (ci := 11) (v := .ref a3) (C := RX11) (T := TX11) (N := 12) hx hb hts w1 hown hK.1 hP 0 rfl rfl 2 (by decide) w0 (fun _ h9 => h9) rfl dX11_fight_52 ?_
        refine lv_iload_n hx hb dX11_fight_55 rfl (lv_at hl 0 rfl) ?_
        refine lv_aload_n hx hb dX11_fight_56 rfl (lv_at hl 1 rfl) ?_
        refine va_get (D := D) (ci := 11) (v := .ref a7) (C := RX11) (T := TX11) (N := 12) hx hb hts w1 hown hK.1 hP 0 rfl rfl 0 (by decide) w2 (fun _ h9 => h9) rfl dX11_fight_57 ?_
        refine va_get (D := D) (ci := 7) (v := .ref (r7 6)) (C := RX7) (T := TX7) (N := 9) hx hb hts w4 hown hK.1 hP 1 rfl rfl 6 (by decide) w3 (fun _ h9 => h9) rfl dX11_fight_60 ?_
        refine kcm_i hA hAB hP hD hS [false, false, false, false, false, false, false, false, true, true, true, true, true, true, true] rfl (fun _ => rfl) (fun hPc hDc => va_runV (As := [.int x18, .ref (r7 6)]) (rest := []) ⟨hx, hb, hml, hown, hts⟩ (k_X3_foughtWorm l D κ β a3 r3 v3_count v3_marks f3_inkOf f3_markLine f3_markHole f3_markOver g13 g10 H.size x18 (r7 6) i4 i5 hf3_markLine hf3_markHole h17 (by omega)) (cwV 2 hts gX11_fight_X3_foughtWorm rfl rfl rfl (by decide +kernel) ⟨Nat.le_of_ble_eq_true rfl, Nat.le_of_ble_eq_true rfl⟩) (pk_V hK hS hAB hPc hDc 0 (ci := 3) rfl rfl rfl) rfl rfl hl.1 rfl (lv_room (Nat.le_of_ble_eq_true rfl)) dX11_fight_63 ⟨Nat.le_of_ble_eq_true rfl, Nat.le_of_ble_eq_true rfl⟩) (fun x23 u24 H locs hw hPD hS => ?_)
        obtain ⟨hP, hD⟩ : PD D A [O11 a11 a7 a5 a3 a2 a6 a4 a10 a9 a1 a0 a8 aN, O7 a7 r7 v7_count v7_holes x9, (cI κ (r7 2) 40 f7_sheetOf), (cI κ (r7 3) 40 f7_placeOf), (cI κ (r7 4) 40 f7_byPlace), (cI κ (r7 7) 40 g11), (cI κ (r3 7) 40 g12), (cI κ (r3 9) 6 g14), O3 a3 r3 v3_count v3_marks, (cI κ (r3 1) 20 f3_inkOf), (cI κ (r3 3) 60 f3_markLine), (cI κ (r3 4) 60 f3_markHole), (cI κ (r3 5) 60 f3_markOver), (cI κ (r3 8) 40 g13), (cI κ (r7 6) 40 g10)] H := hPD
        obtain ⟨hP, hD⟩ : PD D A [O11 a11 a7 a5 a3 a2 a6 a4 a10 a9 a1 a0 a8 aN, O7 a7 r7 v7_count v7_holes x9, (cI κ (r7 2) 40 f7_sheetOf), (cI κ (r7 3) 40 f7_placeOf), (cI κ (r7 4) 40 f7_byPlace), (cI κ (r7 6) 40 g10), (cI κ (r7 7) 40 g11), O3 a3 r3 v3_count v3_marks, (cI κ (r3 1) 20 f3_inkOf), (cI κ (r3 3) 60 f3_markLine), (cI κ (r3 4) 60 f3_markHole), (cI κ (r3 5) 60 f3_markOver), (cI κ (r3 7) 40 g12), (cI κ (r3 8) 40 g13), (cI κ (r3 9) 6 g14)] H := ⟨hP.sub [0, 1, 2, 3, 4, 14, 5, 8, 9, 10, 11, 12, 6, 13, 7] rfl, hD.sub [0, 1, 2, 3, 4, 14, 5, 8, 9, 10, 11, 12, 6, 13, 7] (by decide) rfl⟩
        have hpo : (0 ≤ x9.toInt ∧ x9.toInt ≤ 40) ∧ (∀ j : Nat, 0 ≤ (g10 j).toInt ∧ (g10 j).toInt ≤ 39) := ⟨h16, h17⟩
        exact ret _ _ _ _ x23 (x9, g10, g11, g12, g13, g14) dX11_fight_66 hpo hP hD hS
      have c22 := ci_eq c22
      refine lv_iload_n hx hb dX11_fight_47 rfl (lv_at hl 0 rfl) ?_
      refine lv_goto (tgt := 66) hx hb dX11_fight_48 (by decide) ?_
      obtain ⟨hP, hD⟩ : PD D A [O11 a11 a7 a5 a3 a2 a6 a4 a10 a9 a1 a0 a8 aN, O7 a7 r7 v7_count v7_holes x9, (cI κ (r7 2) 40 f7_sheetOf), (cI κ (r7 3) 40 f7_placeOf), (cI κ (r7 4) 40 f7_byPlace), (cI κ (r7 6) 40 g10), (cI κ (r7 7) 40 g11), O3 a3 r3 v3_count v3_marks, (cI κ (r3 1) 20 f3_inkOf), (cI κ (r3 3) 60 f3_markLine), (cI κ (r3 4) 60 f3_markHole), (cI κ (r3 5) 60 f3_markOver), (cI κ (r3 7) 40 g12), (cI κ (r3 8) 40 g13), (cI κ (r3 9) 6 g14)] H := ⟨hP.sub [0, 1, 2, 3, 4, 14, 5, 8, 9, 10, 11, 12, 6, 13, 7] rfl, hD.sub [0, 1, 2, 3, 4, 14, 5, 8, 9, 10, 11, 12, 6, 13, 7] (by decide) rfl⟩
      have hpo : (0 ≤ x9.toInt ∧ x9.toInt ≤ 40) ∧ (∀ j : Nat, 0 ≤ (g10 j).toInt ∧ (g10 j).toInt ≤ 39) := ⟨h16, h17⟩
      exact ret _ _ _ _ x18 (x9, g10, g11, g12, g13, g14) dX11_fight_66 hpo hP hD hS
    have c21 := ci_nle c21
    refine lv_bipush (v := (-2)) hx hb dX11_fight_40 (by decide) ?_
    obtain ⟨hP, hD⟩ : PD D A [O11 a11 a7 a5 a3 a2 a6 a4 a10 a9 a1 a0 a8 aN, O7 a7 r7 v7_count v7_holes x9, (cI κ (r7 2) 40 f7_sheetOf), (cI κ (r7 3) 40 f7_placeOf), (cI κ (r7 4) 40 f7_byPlace), (cI κ (r7 6) 40 g10), (cI κ (r7 7) 40 g11), O3 a3 r3 v3_count v3_marks, (cI κ (r3 1) 20 f3_inkOf), (cI κ (r3 3) 60 f3_markLine), (cI κ (r3 4) 60 f3_markHole), (cI κ (r3 5) 60 f3_markOver), (cI κ (r3 7) 40 g12), (cI κ (r3 8) 40 g13), (cI κ (r3 9) 6 g14)] H := ⟨hP.sub [0, 1, 2, 3, 4, 14, 5, 8, 9, 10, 11, 12, 6, 13, 7] rfl, hD.sub [0, 1, 2, 3, 4, 14, 5, 8, 9, 10, 11, 12, 6, 13, 7] (by decide) rfl⟩
    have hpo : (0 ≤ x9.toInt ∧ x9.toInt ≤ 40) ∧ (∀ j : Nat, 0 ≤ (g10 j).toInt ∧ (g10 j).toInt ≤ 39) := ⟨h16, h17⟩
    exact ret _ _ _ _ (-2) (x9, g10, g11, g12, g13, g14) dX11_fight_42 hpo hP hD hS
  have c8 := ci_eq c8
  refine lv_iconst (v := (-1)) hx hb dX11_fight_14 (by decide) ?_
  have hpo : (0 ≤ v7_worms.toInt ∧ v7_worms.toInt ≤ 40) ∧ (∀ j : Nat, 0 ≤ (f7_wormOf j).toInt ∧ (f7_wormOf j).toInt ≤ 39) := ⟨i3, hf7_wormOf⟩
  exact ret _ _ _ _ (-1) (v7_worms, f7_wormOf, f7_wormSheets, f3_inksOver, f3_inksRound, f3_inksAhead) dX11_fight_15 hpo hP hD hS
set_option maxHeartbeats 4000000 in
set_option maxRecDepth 100000 in
theorem k_X11_inks (l : Launch) (D : va_G) (κ : Nat → ClassId) (β : Nat) (a11 : Nat) (a7 : Nat) (a5 : Nat) (a3 : Nat) (a2 : Nat) (a6 : Nat) (a4 : Nat) (a10 : Nat) (a9 : Nat) (a1 : Nat) (a0 : Nat) (a8 : Nat) (aN : Nat) (r7 : Nat → Nat) (r3 : Nat → Nat) (v7_count : Int32) (v7_holes : Int32) (v7_worms : Int32) (f7_sheetOf : Nat → Int32) (f7_placeOf : Nat → Int32) (f7_byPlace : Nat → Int32) (f7_wormOf : Nat → Int32) (f7_wormSheets : Nat → Int32) (v3_count : Int32) (v3_marks : Int32) (f3_inkOf : Nat → Int32) (f3_markLine : Nat → Int32) (f3_markHole : Nat → Int32) (f3_markOver : Nat → Int32) (f3_inksOver : Nat → Int32) (f3_inksRound : Nat → Int32) (f3_inksAhead : Nat → Int32) (sz : Nat) (p1 : Int32) (p2 : Int32) (i1 : Rg 0 8 v7_count) (i2 : Rg 0 40 v7_holes) (i3 : Rg 0 40 v7_worms) (hf7_sheetOf : ∀ j : Nat, 0 ≤ (f7_sheetOf j).toInt ∧ (f7_sheetOf j).toInt ≤ 7) (hf7_byPlace : ∀ j : Nat, 0 ≤ (f7_byPlace j).toInt ∧ (f7_byPlace j).toInt ≤ 39) (hf7_wormOf : ∀ j : Nat, 0 ≤ (f7_wormOf j).toInt ∧ (f7_wormOf j).toInt ≤ 39) (i4 : Rg 0 20 v3_count) (i5 : Rg 0 60 v3_marks) (hf3_markLine : ∀ j : Nat, 0 ≤ (f3_markLine j).toInt ∧ (f3_markLine j).toInt ≤ 19) (hf3_markHole : ∀ j : Nat, 0 ≤ (f3_markHole j).toInt ∧ (f3_markHole j).toInt ≤ 39) : Met l yX11_inks wsX11_inks ({ frames := 3, cells := 0, slots := 0, locals := 69 } : Room) (PcK D κ β [O11 a11 a7 a5 a3 a2 a6 a4 a10 a9 a1 a0 a8 aN, O7 a7 r7 v7_count v7_holes v7_worms, (cI κ (r7 2) 40 f7_sheetOf), (cI κ (r7 3) 40 f7_placeOf), (cI κ (r7 4) 40 f7_byPlace), (cI κ (r7 6) 40 f7_wormOf), (cI κ (r7 7) 40 f7_wormSheets), O3 a3 r3 v3_count v3_marks, (cI κ (r3 1) 20 f3_inkOf), (cI κ (r3 3) 60 f3_markLine), (cI κ (r3 4) 60 f3_markHole), (cI κ (r3 5) 60 f3_markOver), (cI κ (r3 7) 40 f3_inksOver), (cI κ (r3 8) 40 f3_inksRound), (cI κ (r3 9) 6 f3_inksAhead)] sz [.ref a11, .int p1, .int p2]) (QiK D (fun (r : Int32) (u : Int32 × (Nat → Int32) × (Nat → Int32) × (Nat → Int32) × (Nat → Int32) × (Nat → Int32)) => (0 ≤ u.1.toInt ∧ u.1.toInt ≤ 40) ∧ (∀ j : Nat, 0 ≤ (u.2.1 j).toInt ∧ (u.2.1 j).toInt ≤ 39)) (fun (u : Int32 × (Nat → Int32) × (Nat → Int32) × (Nat → Int32) × (Nat → Int32) × (Nat → Int32)) => [O11 a11 a7 a5 a3 a2 a6 a4 a10 a9 a1 a0 a8 aN, O7 a7 r7 v7_count v7_holes u.1, (cI κ (r7 2) 40 f7_sheetOf), (cI κ (r7 3) 40 f7_placeOf), (cI κ (r7 4) 40 f7_byPlace), (cI κ (r7 6) 40 u.2.1), (cI κ (r7 7) 40 u.2.2.1), O3 a3 r3 v3_count v3_marks, (cI κ (r3 1) 20 f3_inkOf), (cI κ (r3 3) 60 f3_markLine), (cI κ (r3 4) 60 f3_markHole), (cI κ (r3 5) 60 f3_markOver), (cI κ (r3 7) 40 u.2.2.2.1), (cI κ (r3 8) 40 u.2.2.2.2.1), (cI κ (r3 9) 6 u.2.2.2.2.2)]) [O11 a11 a7 a5 a3 a2 a6 a4 a10 a9 a1 a0 a8 aN, O7 a7 r7 v7_count v7_holes v7_worms, (cI κ (r7 2) 40 f7_sheetOf), (cI κ (r7 3) 40 f7_placeOf), (cI κ (r7 4) 40 f7_byPlace), (cI κ (r7 6) 40 f7_wormOf), (cI κ (r7 7) 40 f7_wormSheets), O3 a3 r3 v3_count v3_marks, (cI κ (r3 1) 20 f3_inkOf), (cI κ (r3 3) 60 f3_markLine), (cI κ (r3 4) 60 f3_markHole), (cI κ (r3 5) 60 f3_markOver), (cI κ (r3 7) 40 f3_inksOver), (cI κ (r3 8) 40 f3_inksRound), (cI κ (r3 9) 6 f3_inksAhead)] sz) 0 0 (va_A [O11 a11 a7 a5 a3 a2 a6 a4 a10 a9 a1 a0 a8 aN, O7 a7 r7 v7_count v7_holes v7_worms, (cI κ (r7 2) 40 f7_sheetOf), (cI κ (r7 3) 40 f7_placeOf), (cI κ (r7 4) 40 f7_byPlace), (cI κ (r7 6) 40 f7_wormOf), (cI κ (r7 7) 40 f7_wormSheets), O3 a3 r3 v3_count v3_marks, (cI κ (r3 1) 20 f3_inkOf), (cI κ (r3 3) 60 f3_markLine), (cI κ (r3 4) 60 f3_markHole), (cI κ (r3 5) 60 f3_markOver), (cI κ (r3 7) 40 f3_inksOver), (cI κ (r3 8) 40 f3_inksRound), (cI κ (r3 9) 6 f3_inksAhead)] sz) := by
  refine ofK_i (cc := cX11_inks) (maxL := 5) (own := RX11) (by decide) rfl rfl (Nat.le_of_ble_eq_true rfl) ?_
  intro p e s m args below meth c Q A ls hsz hx hb hml hts hown hK hA hAB hP hD hl ret
  have hS : va_S A s.heap s.heap [] := va_S.rf
  have hl : lv_has ls 5 [(0, .ref a11), (1, .int p1), (2, .int p2)] := hl
  have w0 := hts (.fieldLink RX11 26 "OlderSkin" "lines" "LOlderSkin$Lines;") (List.mem_of_getElem? (i := 1) rfl)
  have w1 := (fun w h => List.mem_cons_of_mem _ (List.mem_append_left _ (List.mem_append_left _ (List.mem_append_right _ h))) : ∀ w ∈ u_ws RX11 TX11 12, w ∈ wsX11_inks)
  have l0 : (0 : Int32).toInt = 0 := by decide
  have l1 : ((-1) : Int32).toInt = -1 := by decide
  have l2 : ((-2) : Int32).toInt = -2 := by decide
  have l3 : (10 : Int32).toInt = 10 := by decide
  refine lv_iload_n hx hb dX11_inks_0 rfl (lv_at hl 1 rfl) ?_
  refine kcm_i hA hAB hP hD hS [false, false, false, false, false, false, false, false, false, false, false, false, false, false, false] rfl (fun _ => rfl) (fun hPc hDc => va_runS (As := [.int p1]) (rest := []) ⟨hx, hb, hml, hown, hts⟩ (k_X11_isSlack l D κ β s.heap.size p1) (va_cwS 1 hts gX11_inks_X11_isSlack rfl rfl rfl (by decide +kernel) ⟨Nat.le_of_ble_eq_true rfl, Nat.le_of_ble_eq_true rfl⟩) (pk_S hK hS hAB hPc hDc) rfl rfl hl.1 rfl (lv_room (Nat.le_of_ble_eq_true rfl)) dX11_inks_1 ⟨Nat.le_of_ble_eq_true rfl, Nat.le_of_ble_eq_true rfl⟩) (fun x1 u2 H locs hw hPD hS => ?_)
  have h3 : (x1.toInt = 1 ∧ 0 ≤ p1.toInt ∧ p1.toInt ≤ 99) ∨ (x1.toInt = 0 ∧ (p1.toInt < 0 ∨ 99 < p1.toInt)) := hw
  obtain ⟨hP, hD⟩ : PD D A [O11 a11 a7 a5 a3 a2 a6 a4 a10 a9 a1 a0 a8 aN, O7 a7 r7 v7_count v7_holes v7_worms, (cI κ (r7 2) 40 f7_sheetOf), (cI κ (r7 3) 40 f7_placeOf), (cI κ (r7 4) 40 f7_byPlace), (cI κ (r7 6) 40 f7_wormOf), (cI κ (r7 7) 40 f7_wormSheets), O3 a3 r3 v3_count v3_marks, (cI κ (r3 1) 20 f3_inkOf), (cI κ (r3 3) 60 f3_markLine), (cI κ (r3 4) 60 f3_markHole), (cI κ (r3 5) 60 f3_markOver), (cI κ (r3 7) 40 f3_inksOver), (cI κ (r3 8) 40 f3_inksRound), (cI κ (r3 9) 6 f3_inksAhead)] H := hPD
  refine lv_if_ne (tgt := 9) hx hb dX11_inks_4 (by decide) (fun c4 => ?_) (fun c4 => ?_)
  · have c4 := ci_ne c4
    refine lv_aload_n hx hb dX11_inks_9 rfl (lv_at hl 0 rfl) ?_
    refine lv_iload_n hx hb dX11_inks_10 rfl (lv_at hl 1 rfl) ?_
    refine kcm_v hA hAB hP hD hS [true, true, true, true, true, true, true, true, true, true, true, true, true, true, true] rfl (fun _ => rfl) (fun hPc hDc => va_runV (As := [.int p1]) (rest := []) ⟨hx, hb, hml, hown, hts⟩ (k_X11_findInks l D κ β a11 a7 a5 a3 a2 a6 a4 a10 a9 a1 a0 a8 aN r7 r3 v7_count v7_holes v7_worms f7_sheetOf f7_placeOf f7_byPlace f7_wormOf f7_wormSheets v3_count v3_marks f3_inkOf f3_markLine f3_markHole f3_markOver f3_inksOver f3_inksRound f3_inksAhead H.size p1 i1 i2 i3 hf7_sheetOf hf7_byPlace hf7_wormOf i4 i5 hf3_markLine hf3_markHole) (cwV 1 hts gX11_inks_X11_findInks rfl rfl rfl (by decide +kernel) ⟨Nat.le_of_ble_eq_true rfl, Nat.le_of_ble_eq_true rfl⟩) (pk_V hK hS hAB hPc hDc 0 (ci := 11) rfl rfl rfl) rfl rfl hl.1 rfl (lv_room (Nat.le_of_ble_eq_true rfl)) dX11_inks_11 ⟨Nat.le_of_ble_eq_true rfl, Nat.le_of_ble_eq_true rfl⟩) (fun u11 H locs hw hPD hS => ?_)
    obtain ⟨x5, g6, g7, g8, g9, g10⟩ := u11
    obtain ⟨h12, h13⟩ : (Rg 0 40 x5) ∧ (∀ j : Nat, 0 ≤ (g6 j).toInt ∧ (g6 j).toInt ≤ 39) := hw
    obtain ⟨hP, hD⟩ : PD D A [O11 a11 a7 a5 a3 a2 a6 a4 a10 a9 a1 a0 a8 aN, O7 a7 r7 v7_count v7_holes x5, (cI κ (r7 2) 40 f7_sheetOf), (cI κ (r7 3) 40 f7_placeOf), (cI κ (r7 4) 40 f7_byPlace), (cI κ (r7 6) 40 g6), (cI κ (r7 7) 40 g7), O3 a3 r3 v3_count v3_marks, (cI κ (r3 1) 20 f3_inkOf), (cI κ (r3 3) 60 f3_markLine), (cI κ (r3 4) 60 f3_markHole), (cI κ (r3 5) 60 f3_markOver), (cI κ (r3 7) 40 g8), (cI κ (r3 8) 40 g9), (cI κ (r3 9) 6 g10)] H := hPD
    refine lv_iload_n hx hb dX11_inks_14 rfl (lv_at hl 2 rfl) ?_
    refine lv_iconst (v := (-1)) hx hb dX11_inks_15 (by decide) ?_
    refine lv_icmp_ne (tgt := 27) hx hb dX11_inks_16 (by decide) (fun c14 => ?_) (fun c14 => ?_)
    · have c14 := ci_ne c14
      refine lv_iload_n hx hb dX11_inks_27 rfl (lv_at hl 2 rfl) ?_
      refine lv_bipush (v := (-2)) hx hb dX11_inks_28 (by decide) ?_
      refine lv_icmp_ne (tgt := 41) hx hb dX11_inks_30 (by decide) (fun c15 => ?_) (fun c15 => ?_)
      · have c15 := ci_ne c15
        refine lv_iload_n hx hb dX11_inks_41 rfl (lv_at hl 2 rfl) ?_
        refine lv_bipush (v := 10) hx hb dX11_inks_42 (by decide) ?_
        refine lv_idiv hx hb dX11_inks_44 (by decide) ?_
        refine lv_topi (fun x16 e17 => ?_)
        have h18 := ci_divL (n := 10) (by decide) (by decide) e17
        refine lv_istore_n (lv' := [(3, .int x16), (0, .ref a11), (1, .int p1), (2, .int p2)]) hx hb dX11_inks_45 rfl hl (by decide) rfl (fun ls hl => ?_)
        refine lv_iload_n hx hb dX11_inks_46 rfl (lv_at hl 3 rfl) ?_
        refine lv_bipush (v := 10) hx hb dX11_inks_47 (by decide) ?_
        refine lv_irem hx hb dX11_inks_49 (by decide) ?_
        refine lv_topi (fun x19 e20 => ?_)
        have h21 := ci_remL (n := 10) (by decide) (by decide) e20
        refine lv_istore (lv' := [(4, .int x19), (3, .int x16), (0, .ref a11), (1, .int p1), (2, .int p2)]) hx hb dX11_inks_50 hl (by decide) rfl (fun ls hl => ?_)
        refine lv_iload_n hx hb dX11_inks_52 rfl (lv_at hl 1 rfl) ?_
        refine kcm_i hA hAB hP hD hS [false, false, false, false, false, false, false, false, false, false, false, false, false, false, false] rfl (fun _ => rfl) (fun hPc hDc => va_runS (As := [.int x16]) (rest := []) ⟨hx, hb, hml, hown, hts⟩ (k_X11_isInk l D κ β H.size x16) (va_cwS 1 hts gX11_inks_X11_isInk rfl rfl rfl (by decide +kernel) ⟨Nat.le_of_ble_eq_true rfl, Nat.le_of_ble_eq_true rfl⟩) (pk_S hK hS hAB hPc hDc) rfl rfl hl.1 rfl (lv_room (Nat.le_of_ble_eq_true rfl)) dX11_inks_53 ⟨Nat.le_of_ble_eq_true rfl, Nat.le_of_ble_eq_true rfl⟩) (fun x22 u23 H locs hw hPD hS => ?_)
        have h24 : (x22.toInt = 1 ∧ 0 ≤ x16.toInt ∧ x16.toInt ≤ 5) ∨ (x22.toInt = 0 ∧ (x16.toInt < 0 ∨ 5 < x16.toInt)) := hw
        obtain ⟨hP, hD⟩ : PD D A [O11 a11 a7 a5 a3 a2 a6 a4 a10 a9 a1 a0 a8 aN, O7 a7 r7 v7_count v7_holes x5, (cI κ (r7 2) 40 f7_sheetOf), (cI κ (r7 3) 40 f7_placeOf), (cI κ (r7 4) 40 f7_byPlace), (cI κ (r7 6) 40 g6), (cI κ (r7 7) 40 g7), O3 a3 r3 v3_count v3_marks, (cI κ (r3 1) 20 f3_inkOf), (cI κ (r3 3) 60 f3_markLine), (cI κ (r3 4) 60 f3_markHole), (cI κ (r3 5) 60 f3_markOver), (cI κ (r3 7) 40 g8), (cI κ (r3 8) 40 g9), (cI κ (r3 9) 6 g10)] H := hPD
        refine lv_if_eq (tgt := 73) hx hb dX11_inks_56 (by decide) (fun c25 => ?_) (fun c25 => ?_)
        · have c25 := ci_eq c25
          refine lv_iconst (v := (-1)) hx hb dX11_inks_73 (by decide) ?_
          have hpo : (0 ≤ x5.toInt ∧ x5.toInt ≤ 40) ∧ (∀ j : Nat, 0 ≤ (g6 j).toInt ∧ (g6 j).toInt ≤ 39) := ⟨h12, h13⟩
          exact ret _ _ _ _ (-1) (x5, g6, g7, g8, g9, g10) dX11_inks_74 hpo hP hD hS
        have c25 := ci_ne c25
        refine lv_iload hx hb dX11_inks_59 (lv_at hl 0 rfl) ?_
        refine kcm_i hA hAB hP hD hS [false, false, false, false, false, false, false, false, false, false, false, false, false, false, false] rfl (fun _ => rfl) (fun hPc hDc => va_runS (As := [.int x19]) (rest := []) ⟨hx, hb, hml, hown, hts⟩ (k_X11_isInk l D κ β H.size x19) (va_cwS 1 hts gX11_inks_X11_isInk rfl rfl rfl (by decide +kernel) ⟨Nat.le_of_ble_eq_true rfl, Nat.le_of_ble_eq_true rfl⟩) (pk_S hK hS hAB hPc hDc) rfl rfl hl.1 rfl (lv_room (Nat.le_of_ble_eq_true rfl)) dX11_inks_61 ⟨Nat.le_of_ble_eq_true rfl, Nat.le_of_ble_eq_true rfl⟩) (fun x26 u27 H locs hw hPD hS => ?_)
        have h28 : (x26.toInt = 1 ∧ 0 ≤ x19.toInt ∧ x19.toInt ≤ 5) ∨ (x26.toInt = 0 ∧ (x19.toInt < 0 ∨ 5 < x19.toInt)) := hw
        obtain ⟨hP, hD⟩ : PD D A [O11 a11 a7 a5 a3 a2 a6 a4 a10 a9 a1 a0 a8 aN, O7 a7 r7 v7_count v7_holes x5, (cI κ (r7 2) 40 f7_sheetOf), (cI κ (r7 3) 40 f7_placeOf), (cI κ (r7 4) 40 f7_byPlace), (cI κ (r7 6) 40 g6), (cI κ (r7 7) 40 g7), O3 a3 r3 v3_count v3_marks, (cI κ (r3 1) 20 f3_inkOf), (cI κ (r3 3) 60 f3_markLine), (cI κ (r3 4) 60 f3_markHole), (cI κ (r3 5) 60 f3_markOver), (cI κ (r3 7) 40 g8), (cI κ (r3 8) 40 g9), (cI κ (r3 9) 6 g10)] H := hPD
        refine lv_if_eq (tgt := 73) hx hb dX11_inks_64 (by decide) (fun c29 => ?_) (fun c29 => ?_)
        · have c29 := ci_eq c29
          refine lv_iconst (v := (-1)) hx hb dX11_inks_73 (by decide) ?_
          have hpo : (0 ≤ x5.toInt ∧ x5.toInt ≤ 40) ∧ (∀ j : Nat, 0 ≤ (g6 j).toInt ∧ (g6 j).toInt ≤ 39) := ⟨h12, h13⟩
          exact ret _ _ _ _ (-1) (x5, g6, g7, g8, g9, g10) dX11_inks_74 hpo hP hD hS
        have c29 := ci_ne c29
        refine lv_iload_n hx hb dX11_inks_67 rfl (lv_at hl 1 rfl) ?_
        refine lv_iload hx hb dX11_inks_68 (lv_at hl 0 rfl) ?_
        refine lv_icmp_ne (tgt := 75) hx hb dX11_inks_70 (by decide) (fun c30 => ?_) (fun c30 => ?_)
        · have c30 := ci_ne c30
          refine lv_aload_n hx hb dX11_inks_75 rfl (lv_at hl 2 rfl) ?_
          refine va_get (D := D) (ci := 11) (v := .ref a3) (C := RX11) (T := TX11) (N := 12) hx hb hts w1 hown hK.1 hP 0 rfl rfl 2 (by decide) w0 (fun _ h9 => h9) rfl dX11_inks_76 ?_
          refine lv_iload_n hx hb dX11_inks_79 rfl (lv_at hl 1 rfl) ?_
          refine lv_iload hx hb dX11_inks_80 (lv_at hl 0 rfl) ?_
          refine kcm_i hA hAB hP hD hS [false, false, false, false, false, false, false, true, false, false, false, false, false, false, true] rfl (fun _ => rfl) (fun hPc hDc => va_runV (As := [.int x16, .int x19]) (rest := []) ⟨hx, hb, hml, hown, hts⟩ (k_X3_cameAhead l D κ β a3 r3 v3_count v3_marks g10 H.size x16 x19 i4 i5 (by omega)) (cwV 2 hts gX11_inks_X3_cameAhead rfl rfl rfl (by decide +kernel) ⟨Nat.le_of_ble_eq_true rfl, Nat.le_of_ble_eq_true rfl⟩) (pk_V hK hS hAB hPc hDc 0 (ci := 3) rfl rfl rfl) rfl rfl hl.1 rfl (lv_room (Nat.le_of_ble_eq_true rfl)) dX11_inks_82 ⟨Nat.le_of_ble_eq_true rfl, Nat.le_of_ble_eq_true rfl⟩) (fun x31 u32 H locs hw hPD hS => ?_)
          have h33 : x31.toInt = 0 ∨ x31.toInt = 1 := hw
          obtain ⟨hP, hD⟩ : PD D A [O11 a11 a7 a5 a3 a2 a6 a4 a10 a9 a1 a0 a8 aN, O7 a7 r7 v7_count v7_holes x5, (cI κ (r7 2) 40 f7_sheetOf), (cI κ (r7 3) 40 f7_placeOf), (cI κ (r7 4) 40 f7_byPlace), (cI κ (r7 6) 40 g6), (cI κ (r7 7) 40 g7), O3 a3 r3 v3_count v3_marks, (cI κ (r3 1) 20 f3_inkOf), (cI κ (r3 3) 60 f3_markLine), (cI κ (r3 4) 60 f3_markHole), (cI κ (r3 5) 60 f3_markOver), (cI κ (r3 7) 40 g8), (cI κ (r3 8) 40 g9), (cI κ (r3 9) 6 g10)] H := hPD
          refine kcm_i hA hAB hP hD hS [false, false, false, false, false, false, false, false, false, false, false, false, false, false, false] rfl (fun _ => rfl) (fun hPc hDc => va_runS (As := [.int x31]) (rest := []) ⟨hx, hb, hml, hown, hts⟩ (k_X11_asBit l D κ β H.size x31) (va_cwS 1 hts gX11_inks_X11_asBit rfl rfl rfl (by decide +kernel) ⟨Nat.le_of_ble_eq_true rfl, Nat.le_of_ble_eq_true rfl⟩) (pk_S hK hS hAB hPc hDc) rfl rfl hl.1 rfl (lv_room (Nat.le_of_ble_eq_true rfl)) dX11_inks_85 ⟨Nat.le_of_ble_eq_true rfl, Nat.le_of_ble_eq_true rfl⟩) (fun x34 u35 H locs hw hPD hS => ?_)
          have h36 : (x34.toInt = 1 ∧ x31.toInt ≠ 0) ∨ (x34.toInt = 0 ∧ x31.toInt = 0) := hw
          obtain ⟨hP, hD⟩ : PD D A [O11 a11 a7 a5 a3 a2 a6 a4 a10 a9 a1 a0 a8 aN, O7 a7 r7 v7_count v7_holes x5, (cI κ (r7 2) 40 f7_sheetOf), (cI κ (r7 3) 40 f7_placeOf), (cI κ (r7 4) 40 f7_byPlace), (cI κ (r7 6) 40 g6), (cI κ (r7 7) 40 g7), O3 a3 r3 v3_count v3_marks, (cI κ (r3 1) 20 f3_inkOf), (cI κ (r3 3) 60 f3_markLine), (cI κ (r3 4) 60 f3_markHole), (cI κ (r3 5) 60 f3_markOver), (cI κ (r3 7) 40 g8), (cI κ (r3 8) 40 g9), (cI κ (r3 9) 6 g10)] H := hPD
          have hpo : (0 ≤ x5.toInt ∧ x5.toInt ≤ 40) ∧ (∀ j : Nat, 0 ≤ (g6 j).toInt ∧ (g6 j).toInt ≤ 39) := ⟨h12, h13⟩
          exact ret _ _ _ _ x34 (x5, g6, g7, g8, g9, g10) dX11_inks_88 hpo hP hD hS
        have c30 := ci_eq c30
        refine lv_iconst (v := (-1)) hx hb dX11_inks_73 (by decide) ?_
        have hpo : (0 ≤ x5.toInt ∧ x5.toInt ≤ 40) ∧ (∀ j : Nat, 0 ≤ (g6 j).toInt ∧ (g6 j).toInt ≤ 39) := ⟨h12, h13⟩
        exact ret _ _ _ _ (-1) (x5, g6, g7, g8, g9, g10) dX11_inks_74 hpo hP hD hS
      have c15 := ci_eq c15
      refine lv_aload_n hx hb dX11_inks_33 rfl (lv_at hl 0 rfl) ?_
      refine va_get (D := D) (ci := 11) (v := .ref a3) (C := RX11) (T := TX11) (N := 12) hx hb hts w1 hown hK.1 hP 0 rfl rfl 2 (by decide) w0 (fun _ h9 => h9) rfl dX11_inks_34 ?_
      refine kcm_i hA hAB hP hD hS [false, false, false, false, false, false, false, true, false, false, false, false, false, false, true] rfl (fun _ => rfl) (fun hPc hDc => va_runV (As := []) (rest := []) ⟨hx, hb, hml, hown, hts⟩ (k_X3_leastRing l D κ β a3 r3 v3_count v3_marks g10 H.size i4 i5) (cwV 0 hts gX11_inks_X3_leastRing rfl rfl rfl (by decide +kernel) ⟨Nat.le_of_ble_eq_true rfl, Nat.le_of_ble_eq_true rfl⟩) (pk_V hK hS hAB hPc hDc 0 (ci := 3) rfl rfl rfl) rfl rfl hl.1 rfl (lv_room (Nat.le_of_ble_eq_true rfl)) dX11_inks_37 ⟨Nat.le_of_ble_eq_true rfl, Nat.le_of_ble_eq_true rfl⟩) (fun x37 u38 H locs hw hPD hS => ?_)
      obtain ⟨hP, hD⟩ : PD D A [O11 a11 a7 a5 a3 a2 a6 a4 a10 a9 a1 a0 a8 aN, O7 a7 r7 v7_count v7_holes x5, (cI κ (r7 2) 40 f7_sheetOf), (cI κ (r7 3) 40 f7_placeOf), (cI κ (r7 4) 40 f7_byPlace), (cI κ (r7 6) 40 g6), (cI κ (r7 7) 40 g7), O3 a3 r3 v3_count v3_marks, (cI κ (r3 1) 20 f3_inkOf), (cI κ (r3 3) 60 f3_markLine), (cI κ (r3 4) 60 f3_markHole), (cI κ (r3 5) 60 f3_markOver), (cI κ (r3 7) 40 g8), (cI κ (r3 8) 40 g9), (cI κ (r3 9) 6 g10)] H := hPD
      have hpo : (0 ≤ x5.toInt ∧ x5.toInt ≤ 40) ∧ (∀ j : Nat, 0 ≤ (g6 j).toInt ∧ (g6 j).toInt ≤ 39) := ⟨h12, h13⟩
      exact ret _ _ _ _ x37 (x5, g6, g7, g8, g9, g10) dX11_inks_40 hpo hP hD hS
    have c14 := ci_eq c14
    refine lv_aload_n hx hb dX11_inks_19 rfl (lv_at hl 0 rfl) ?_
    refine va_get (D := D) (ci := 11) (v := .ref a3) (C := RX11) (T := TX11) (N := 12) hx hb hts w1 hown hK.1 hP 0 rfl rfl 2 (by decide) w0 (fun _ h9 => h9) rfl dX11_inks_20 ?_
    refine kcm_i hA hAB hP hD hS [false, false, false, false, false, false, false, true, true, false, false, false, false, false, true] rfl (fun _ => rfl) (fun hPc hDc => va_runV (As := []) (rest := []) ⟨hx, hb, hml, hown, hts⟩ (k_X3_firstInk l D κ β a3 r3 v3_count v3_marks f3_inkOf g10 H.size i4 i5) (cwV 0 hts gX11_inks_X3_firstInk rfl rfl rfl (by decide +kernel) ⟨Nat.le_of_ble_eq_true rfl, Nat.le_of_ble_eq_true rfl⟩) (pk_V hK hS hAB hPc hDc 0 (ci := 3) rfl rfl rfl) rfl rfl hl.1 rfl (lv_room (Nat.le_of_ble_eq_true rfl)) dX11_inks_23 ⟨Nat.le_of_ble_eq_true rfl, Nat.le_of_ble_eq_true rfl⟩) (fun x39 u40 H locs hw hPD hS => ?_)
    obtain ⟨hP, hD⟩ : PD D A [O11 a11 a7 a5 a3 a2 a6 a4 a10 a9 a1 a0 a8 aN, O7 a7 r7 v7_count v7_holes x5, (cI κ (r7 2) 40 f7_sheetOf), (cI κ (r7 3) 40 f7_placeOf), (cI κ (r7 4) 40 f7_byPlace), (cI κ (r7 6) 40 g6), (cI κ (r7 7) 40 g7), O3 a3 r3 v3_count v3_marks, (cI κ (r3 1) 20 f3_inkOf), (cI κ (r3 3) 60 f3_markLine), (cI κ (r3 4) 60 f3_markHole), (cI κ (r3 5) 60 f3_markOver), (cI κ (r3 7) 40 g8), (cI κ (r3 8) 40 g9), (cI κ (r3 9) 6 g10)] H := hPD
    have hpo : (0 ≤ x5.toInt ∧ x5.toInt ≤ 40) ∧ (∀ j : Nat, 0 ≤ (g6 j).toInt ∧ (g6 j).toInt ≤ 39) := ⟨h12, h13⟩
    exact ret _ _ _ _ x39 (x5, g6, g7, g8, g9, g10) dX11_inks_26 hpo hP hD hS
  have c4 := ci_eq c4
  refine lv_iconst (v := (-1)) hx hb dX11_inks_7 (by decide) ?_
  have hpo : (0 ≤ v7_worms.toInt ∧ v7_worms.toInt ≤ 40) ∧ (∀ j : Nat, 0 ≤ (f7_wormOf j).toInt ∧ (f7_wormOf j).toInt ≤ 39) := ⟨i3, hf7_wormOf⟩
  exact ret _ _ _ _ (-1) (v7_worms, f7_wormOf, f7_wormSheets, f3_inksOver, f3_inksRound, f3_inksAhead) dX11_inks_8 hpo hP hD hS
