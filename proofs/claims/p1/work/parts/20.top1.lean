set_option maxHeartbeats 4000000 in
set_option maxRecDepth 100000 in
theorem k_X11_sheet (l : Launch) (D : va_G) (κ : Nat → ClassId) (β : Nat) (a11 : Nat) (a7 : Nat) (a5 : Nat) (a3 : Nat) (a2 : Nat) (a6 : Nat) (a4 : Nat) (a10 : Nat) (a9 : Nat) (a1 : Nat) (a0 : Nat) (a8 : Nat) (aN : Nat) (r7 : Nat → Nat) (v7_count : Int32) (v7_holes : Int32) (v7_worms : Int32) (f7_ages : Nat → Int32) (sz : Nat) (p1 : Int32) (i1 : Rg 0 8 v7_count) (i2 : Rg 0 40 v7_holes) (i3 : Rg 0 40 v7_worms) (i4 : v7_count.toInt = 0) (i5 : v7_holes.toInt = 0) (i6 : v7_worms.toInt = 0) : Met l yX11_sheet wsX11_sheet ({ frames := 2, cells := 0, slots := 0, locals := 42 } : Room) (PcK D κ β [O11 a11 a7 a5 a3 a2 a6 a4 a10 a9 a1 a0 a8 aN, O7 a7 r7 v7_count v7_holes v7_worms, (cI κ (r7 0) 8 f7_ages)] sz [.ref a11, .int p1]) (QiK D (fun (r : Int32) (u : Int32 × (Nat → Int32)) => (0 ≤ u.1.toInt ∧ u.1.toInt ≤ 8) ∧ ((¬ (0 ≤ p1.toInt ∧ p1.toInt ≤ 2000) ∧ r.toInt = -1 ∧ u.1.toInt = v7_count.toInt) ∨ ((0 ≤ p1.toInt ∧ p1.toInt ≤ 2000) ∧ v7_count.toInt = 8 ∧ r.toInt = -3 ∧ u.1.toInt = v7_count.toInt) ∨ ((0 ≤ p1.toInt ∧ p1.toInt ≤ 2000) ∧ v7_count.toInt < 8 ∧ r.toInt = v7_count.toInt ∧ u.1.toInt = v7_count.toInt + 1))) (fun (u : Int32 × (Nat → Int32)) => [O11 a11 a7 a5 a3 a2 a6 a4 a10 a9 a1 a0 a8 aN, O7 a7 r7 u.1 v7_holes v7_worms, (cI κ (r7 0) 8 u.2)]) [O11 a11 a7 a5 a3 a2 a6 a4 a10 a9 a1 a0 a8 aN, O7 a7 r7 v7_count v7_holes v7_worms, (cI κ (r7 0) 8 f7_ages)] sz) 0 0 (va_A [O11 a11 a7 a5 a3 a2 a6 a4 a10 a9 a1 a0 a8 aN, O7 a7 r7 v7_count v7_holes v7_worms, (cI κ (r7 0) 8 f7_ages)] sz) := by
  refine ofK_i (cc := cX11_sheet) (maxL := 2) (own := RX11) (by decide) rfl rfl (Nat.le_of_ble_eq_true rfl) ?_
  intro p e s m args below meth c Q A ls hsz hx hb hml hts hown hK hA hAB hP hD hl ret
  have hS : va_S A s.heap s.heap [] := va_S.rf
  have hl : lv_has ls 2 [(0, .ref a11), (1, .int p1)] := hl
  have w0 := hts (.fieldLink RX11 10 "OlderSkin" "sheets" "LOlderSkin$Sheets;") (List.mem_of_getElem? (i := 1) rfl)
  have w1 := (fun w h => List.mem_cons_of_mem _ (List.mem_append_left _ (List.mem_append_right _ h)) : ∀ w ∈ u_ws RX11 TX11 12, w ∈ wsX11_sheet)
  have l0 : (0 : Int32).toInt = 0 := by decide
  have l1 : ((-1) : Int32).toInt = -1 := by decide
  have i1 : 0 ≤ v7_count.toInt ∧ v7_count.toInt ≤ 8 := i1
  refine lv_iload_n hx hb dX11_sheet_0 rfl (lv_at hl 1 rfl) ?_
  refine kcm_i hA hAB hP hD hS [false, false, false] rfl (fun _ => rfl) (fun hPc hDc => va_runS (As := [.int p1]) (rest := []) ⟨hx, hb, hml, hown, hts⟩ (k_X11_isYear l D κ β s.heap.size p1) (va_cwS 1 hts gX11_sheet_X11_isYear rfl rfl rfl (by decide +kernel) ⟨Nat.le_of_ble_eq_true rfl, Nat.le_of_ble_eq_true rfl⟩) (pk_S hK hS hAB hPc hDc) rfl rfl hl.1 rfl (lv_room (Nat.le_of_ble_eq_true rfl)) dX11_sheet_1 ⟨Nat.le_of_ble_eq_true rfl, Nat.le_of_ble_eq_true rfl⟩) (fun x1 u2 H locs hw hPD hS => ?_)
  have h3 : (x1.toInt = 1 ∧ 0 ≤ p1.toInt ∧ p1.toInt ≤ 2000) ∨ (x1.toInt = 0 ∧ (p1.toInt < 0 ∨ 2000 < p1.toInt)) := hw
  obtain ⟨hP, hD⟩ : PD D A [O11 a11 a7 a5 a3 a2 a6 a4 a10 a9 a1 a0 a8 aN, O7 a7 r7 v7_count v7_holes v7_worms, (cI κ (r7 0) 8 f7_ages)] H := hPD
  refine lv_if_ne (tgt := 9) hx hb dX11_sheet_4 (by decide) (fun c4 => ?_) (fun c4 => ?_)
  · have c4 := ci_ne c4
    refine lv_aload_n hx hb dX11_sheet_9 rfl (lv_at hl 0 rfl) ?_
    refine va_get (D := D) (ci := 11) (v := .ref a7) (C := RX11) (T := TX11) (N := 12) hx hb hts w1 hown hK.1 hP 0 rfl rfl 0 (by decide) w0 (fun _ h9 => h9) rfl dX11_sheet_10 ?_
    refine lv_iload_n hx hb dX11_sheet_13 rfl (lv_at hl 1 rfl) ?_
    refine kcm_i hA hAB hP hD hS [false, true, true] rfl (fun _ => rfl) (fun hPc hDc => va_runV (As := [.int p1]) (rest := []) ⟨hx, hb, hml, hown, hts⟩ (k_X7_add l D κ β a7 r7 v7_count v7_holes v7_worms f7_ages H.size p1 i1 i2 i3 (by omega) (by omega) (by omega)) (cwV 1 hts gX11_sheet_X7_add rfl rfl rfl (by decide +kernel) ⟨Nat.le_of_ble_eq_true rfl, Nat.le_of_ble_eq_true rfl⟩) (pk_V hK hS hAB hPc hDc 0 (ci := 7) rfl rfl rfl) rfl rfl hl.1 rfl (lv_room (Nat.le_of_ble_eq_true rfl)) dX11_sheet_14 ⟨Nat.le_of_ble_eq_true rfl, Nat.le_of_ble_eq_true rfl⟩) (fun x7 u8 H locs hw hPD hS => ?_)
    obtain ⟨x5, g6⟩ := u8
    obtain ⟨h9, h10⟩ : (0 ≤ x5.toInt ∧ x5.toInt ≤ 8) ∧ ((v7_count.toInt = 8 ∧ x7.toInt = -3 ∧ x5.toInt = v7_count.toInt) ∨ (v7_count.toInt < 8 ∧ x7.toInt = v7_count.toInt ∧ x5.toInt = v7_count.toInt + 1)) := hw
    obtain ⟨hP, hD⟩ : PD D A [O11 a11 a7 a5 a3 a2 a6 a4 a10 a9 a1 a0 a8 aN, O7 a7 r7 x5 v7_holes v7_worms, (cI κ (r7 0) 8 g6)] H := hPD
    have hpo : (0 ≤ x5.toInt ∧ x5.toInt ≤ 8) ∧ ((¬ (0 ≤ p1.toInt ∧ p1.toInt ≤ 2000) ∧ x7.toInt = -1 ∧ x5.toInt = v7_count.toInt) ∨ ((0 ≤ p1.toInt ∧ p1.toInt ≤ 2000) ∧ v7_count.toInt = 8 ∧ x7.toInt = -3 ∧ x5.toInt = v7_count.toInt) ∨ ((0 ≤ p1.toInt ∧ p1.toInt ≤ 2000) ∧ v7_count.toInt < 8 ∧ x7.toInt = v7_count.toInt ∧ x5.toInt = v7_count.toInt + 1)) := ⟨h9, (by omega)⟩
    exact ret _ _ _ _ x7 (x5, g6) dX11_sheet_17 hpo hP hD hS
  have c4 := ci_eq c4
  refine lv_iconst (v := (-1)) hx hb dX11_sheet_7 (by decide) ?_
  have hpo : (0 ≤ v7_count.toInt ∧ v7_count.toInt ≤ 8) ∧ ((¬ (0 ≤ p1.toInt ∧ p1.toInt ≤ 2000) ∧ ((-1) : Int32).toInt = -1 ∧ v7_count.toInt = v7_count.toInt) ∨ ((0 ≤ p1.toInt ∧ p1.toInt ≤ 2000) ∧ v7_count.toInt = 8 ∧ ((-1) : Int32).toInt = -3 ∧ v7_count.toInt = v7_count.toInt) ∨ ((0 ≤ p1.toInt ∧ p1.toInt ≤ 2000) ∧ v7_count.toInt < 8 ∧ ((-1) : Int32).toInt = v7_count.toInt ∧ v7_count.toInt = v7_count.toInt + 1)) := ⟨i1, (by omega)⟩
  exact ret _ _ _ _ (-1) (v7_count, f7_ages) dX11_sheet_8 hpo hP hD hS
set_option maxHeartbeats 4000000 in
set_option maxRecDepth 100000 in
theorem k_X11_hole (l : Launch) (D : va_G) (κ : Nat → ClassId) (β : Nat) (a11 : Nat) (a7 : Nat) (a5 : Nat) (a3 : Nat) (a2 : Nat) (a6 : Nat) (a4 : Nat) (a10 : Nat) (a9 : Nat) (a1 : Nat) (a0 : Nat) (a8 : Nat) (aN : Nat) (r7 : Nat → Nat) (v7_count : Int32) (v7_holes : Int32) (v7_worms : Int32) (sz : Nat) (p1 : Int32) (p2 : Int32) (i1 : Rg 0 8 v7_count) (i2 : Rg 0 40 v7_holes) (i3 : Rg 0 40 v7_worms) (i4 : v7_count.toInt = 0) (i5 : v7_holes.toInt = 0) (i6 : v7_worms.toInt = 0) : Met l yX11_hole wsX11_hole ({ frames := 2, cells := 0, slots := 0, locals := 43 } : Room) (PcK D κ β [O11 a11 a7 a5 a3 a2 a6 a4 a10 a9 a1 a0 a8 aN, O7 a7 r7 v7_count v7_holes v7_worms] sz [.ref a11, .int p1, .int p2]) (QiK D (fun (r : Int32) (u : Unit) => r.toInt = -1) (fun (u : Unit) => [O11 a11 a7 a5 a3 a2 a6 a4 a10 a9 a1 a0 a8 aN, O7 a7 r7 v7_count v7_holes v7_worms]) [O11 a11 a7 a5 a3 a2 a6 a4 a10 a9 a1 a0 a8 aN, O7 a7 r7 v7_count v7_holes v7_worms] sz) 0 0 (va_A [O11 a11 a7 a5 a3 a2 a6 a4 a10 a9 a1 a0 a8 aN, O7 a7 r7 v7_count v7_holes v7_worms] sz) := by
  refine ofK_i (cc := cX11_hole) (maxL := 3) (own := RX11) (by decide) rfl rfl (Nat.le_of_ble_eq_true rfl) ?_
  intro p e s m args below meth c Q A ls hsz hx hb hml hts hown hK hA hAB hP hD hl ret
  have hS : va_S A s.heap s.heap [] := va_S.rf
  have hl : lv_has ls 3 [(0, .ref a11), (1, .int p1), (2, .int p2)] := hl
  have w0 := hts (.fieldLink RX11 10 "OlderSkin" "sheets" "LOlderSkin$Sheets;") (List.mem_of_getElem? (i := 1) rfl)
  have w1 := (fun w h => List.mem_cons_of_mem _ (List.mem_append_left _ (List.mem_append_right _ h)) : ∀ w ∈ u_ws RX11 TX11 12, w ∈ wsX11_hole)
  have l0 : (0 : Int32).toInt = 0 := by decide
  have l1 : ((-1) : Int32).toInt = -1 := by decide
  have i1 : 0 ≤ v7_count.toInt ∧ v7_count.toInt ≤ 8 := i1
  refine lv_aload_n hx hb dX11_hole_0 rfl (lv_at hl 0 rfl) ?_
  refine va_get (D := D) (ci := 11) (v := .ref a7) (C := RX11) (T := TX11) (N := 12) hx hb hts w1 hown hK.1 hP 0 rfl rfl 0 (by decide) w0 (fun _ h9 => h9) rfl dX11_hole_1 ?_
  refine lv_iload_n hx hb dX11_hole_4 rfl (lv_at hl 1 rfl) ?_
  refine kcm_i hA hAB hP hD hS [false, true] rfl (fun _ => rfl) (fun hPc hDc => va_runV (As := [.int p1]) (rest := []) ⟨hx, hb, hml, hown, hts⟩ (k_X7_isSheet l D κ β a7 r7 v7_count v7_holes v7_worms s.heap.size p1 i1 i2 i3 (by omega) (by omega) (by omega)) (cwV 1 hts gX11_hole_X7_isSheet rfl rfl rfl (by decide +kernel) ⟨Nat.le_of_ble_eq_true rfl, Nat.le_of_ble_eq_true rfl⟩) (pk_V hK hS hAB hPc hDc 0 (ci := 7) rfl rfl rfl) rfl rfl hl.1 rfl (lv_room (Nat.le_of_ble_eq_true rfl)) dX11_hole_5 ⟨Nat.le_of_ble_eq_true rfl, Nat.le_of_ble_eq_true rfl⟩) (fun x1 u2 H locs hw hPD hS => ?_)
  have h3 : (x1.toInt = 1 ∧ 0 ≤ p1.toInt ∧ p1.toInt < v7_count.toInt) ∨ (x1.toInt = 0 ∧ (p1.toInt < 0 ∨ v7_count.toInt ≤ p1.toInt)) := hw
  obtain ⟨hP, hD⟩ : PD D A [O11 a11 a7 a5 a3 a2 a6 a4 a10 a9 a1 a0 a8 aN, O7 a7 r7 v7_count v7_holes v7_worms] H := hPD
  refine lv_if_eq (tgt := 22) hx hb dX11_hole_8 (by decide) (fun c4 => ?_) (fun c4 => ?_)
  · have c4 := ci_eq c4
    refine lv_iconst (v := (-1)) hx hb dX11_hole_22 (by decide) ?_
    have hpo : ((-1) : Int32).toInt = -1 := (by omega)
    exact ret _ _ _ _ (-1) () dX11_hole_23 hpo hP hD hS
  have c4 := ci_ne c4
  exfalso
  omega
set_option maxHeartbeats 4000000 in
set_option maxRecDepth 100000 in
theorem k_X11_worms (l : Launch) (D : va_G) (κ : Nat → ClassId) (β : Nat) (a11 : Nat) (a7 : Nat) (a5 : Nat) (a3 : Nat) (a2 : Nat) (a6 : Nat) (a4 : Nat) (a10 : Nat) (a9 : Nat) (a1 : Nat) (a0 : Nat) (a8 : Nat) (aN : Nat) (r7 : Nat → Nat) (v7_count : Int32) (v7_holes : Int32) (v7_worms : Int32) (f7_wormSheets : Nat → Int32) (sz : Nat) (p1 : Int32) (p2 : Int32) (i1 : Rg 0 8 v7_count) (i2 : Rg 0 40 v7_holes) (i3 : Rg 0 40 v7_worms) (i4 : v7_count.toInt = 0) (i5 : v7_holes.toInt = 0) (i6 : v7_worms.toInt = 0) : Met l yX11_worms wsX11_worms ({ frames := 2, cells := 0, slots := 0, locals := 42 } : Room) (PcK D κ β [O11 a11 a7 a5 a3 a2 a6 a4 a10 a9 a1 a0 a8 aN, O7 a7 r7 v7_count v7_holes v7_worms, (cI κ (r7 7) 40 f7_wormSheets)] sz [.ref a11, .int p1, .int p2]) (QiK D (fun (r : Int32) (u : Int32) => (0 ≤ u.toInt ∧ u.toInt ≤ 40) ∧ (((0 ≤ p1.toInt ∧ p1.toInt ≤ 99 ∧ p2.toInt = -1) ∧ r.toInt = 0) ∨ (¬ (0 ≤ p1.toInt ∧ p1.toInt ≤ 99 ∧ p2.toInt = -1) ∧ r.toInt = -1))) (fun (u : Int32) => [O11 a11 a7 a5 a3 a2 a6 a4 a10 a9 a1 a0 a8 aN, O7 a7 r7 v7_count v7_holes u, (cI κ (r7 7) 40 f7_wormSheets)]) [O11 a11 a7 a5 a3 a2 a6 a4 a10 a9 a1 a0 a8 aN, O7 a7 r7 v7_count v7_holes v7_worms, (cI κ (r7 7) 40 f7_wormSheets)] sz) 0 0 (va_A [O11 a11 a7 a5 a3 a2 a6 a4 a10 a9 a1 a0 a8 aN, O7 a7 r7 v7_count v7_holes v7_worms, (cI κ (r7 7) 40 f7_wormSheets)] sz) := by
  refine ofK_i (cc := cX11_worms) (maxL := 3) (own := RX11) (by decide) rfl rfl (Nat.le_of_ble_eq_true rfl) ?_
  intro p e s m args below meth c Q A ls hsz hx hb hml hts hown hK hA hAB hP hD hl ret
  have hS : va_S A s.heap s.heap [] := va_S.rf
  have hl : lv_has ls 3 [(0, .ref a11), (1, .int p1), (2, .int p2)] := hl
  have w0 := hts (.fieldLink RX11 10 "OlderSkin" "sheets" "LOlderSkin$Sheets;") (List.mem_of_getElem? (i := 1) rfl)
  have w1 := (fun w h => List.mem_cons_of_mem _ (List.mem_append_left _ (List.mem_append_right _ h)) : ∀ w ∈ u_ws RX11 TX11 12, w ∈ wsX11_worms)
  have w2 := hts (.fieldLink RX11 131 "OlderSkin$Sheets" "worms" "I") (List.mem_of_getElem? (i := 2) rfl)
  have w3 := (fun w h => List.mem_cons_of_mem _ (List.mem_append_right _ h) : ∀ w ∈ u_ws RX7 TX7 9, w ∈ wsX11_worms)
  have w4 := hts (.fieldLink RX11 135 "OlderSkin$Sheets" "wormSheets" "[I") (List.mem_of_getElem? (i := 3) rfl)
  have l0 : (0 : Int32).toInt = 0 := by decide
  have l1 : ((-1) : Int32).toInt = -1 := by decide
  have i3 : 0 ≤ v7_worms.toInt ∧ v7_worms.toInt ≤ 40 := i3
  refine lv_iload_n hx hb dX11_worms_0 rfl (lv_at hl 1 rfl) ?_
  refine kcm_i hA hAB hP hD hS [false, false, false] rfl (fun _ => rfl) (fun hPc hDc => va_runS (As := [.int p1]) (rest := []) ⟨hx, hb, hml, hown, hts⟩ (k_X11_isSlack l D κ β s.heap.size p1) (va_cwS 1 hts gX11_worms_X11_isSlack rfl rfl rfl (by decide +kernel) ⟨Nat.le_of_ble_eq_true rfl, Nat.le_of_ble_eq_true rfl⟩) (pk_S hK hS hAB hPc hDc) rfl rfl hl.1 rfl (lv_room (Nat.le_of_ble_eq_true rfl)) dX11_worms_1 ⟨Nat.le_of_ble_eq_true rfl, Nat.le_of_ble_eq_true rfl⟩) (fun x1 u2 H locs hw hPD hS => ?_)
  have h3 : (x1.toInt = 1 ∧ 0 ≤ p1.toInt ∧ p1.toInt ≤ 99) ∨ (x1.toInt = 0 ∧ (p1.toInt < 0 ∨ 99 < p1.toInt)) := hw
  obtain ⟨hP, hD⟩ : PD D A [O11 a11 a7 a5 a3 a2 a6 a4 a10 a9 a1 a0 a8 aN, O7 a7 r7 v7_count v7_holes v7_worms, (cI κ (r7 7) 40 f7_wormSheets)] H := hPD
  refine lv_if_eq (tgt := 12) hx hb dX11_worms_4 (by decide) (fun c4 => ?_) (fun c4 => ?_)
  · have c4 := ci_eq c4
    refine lv_iconst (v := (-1)) hx hb dX11_worms_12 (by decide) ?_
    have hpo : (0 ≤ v7_worms.toInt ∧ v7_worms.toInt ≤ 40) ∧ (((0 ≤ p1.toInt ∧ p1.toInt ≤ 99 ∧ p2.toInt = -1) ∧ ((-1) : Int32).toInt = 0) ∨ (¬ (0 ≤ p1.toInt ∧ p1.toInt ≤ 99 ∧ p2.toInt = -1) ∧ ((-1) : Int32).toInt = -1)) := ⟨i3, (by omega)⟩
    exact ret _ _ _ _ (-1) v7_worms dX11_worms_13 hpo hP hD hS
  have c4 := ci_ne c4
  refine lv_iload_n hx hb dX11_worms_7 rfl (lv_at hl 2 rfl) ?_
  refine lv_iconst (v := (-1)) hx hb dX11_worms_8 (by decide) ?_
  refine lv_icmp_ge (tgt := 14) hx hb dX11_worms_9 (by decide) (fun c5 => ?_) (fun c5 => ?_)
  · have c5 := ci_le c5
    refine lv_aload_n hx hb dX11_worms_14 rfl (lv_at hl 0 rfl) ?_
    refine va_get (D := D) (ci := 11) (v := .ref a7) (C := RX11) (T := TX11) (N := 12) hx hb hts w1 hown hK.1 hP 0 rfl rfl 0 (by decide) w0 (fun _ h9 => h9) rfl dX11_worms_15 ?_
    refine lv_iload_n hx hb dX11_worms_18 rfl (lv_at hl 1 rfl) ?_
    refine lv_aload_n hx hb dX11_worms_19 rfl (lv_at hl 0 rfl) ?_
    refine va_get (D := D) (ci := 11) (v := .ref a7) (C := RX11) (T := TX11) (N := 12) hx hb hts w1 hown hK.1 hP 0 rfl rfl 0 (by decide) w0 (fun _ h9 => h9) rfl dX11_worms_20 ?_
    refine kcm_i hA hAB hP hD hS [false, true, false] rfl (fun _ => rfl) (fun hPc hDc => va_runV (As := []) (rest := [.int p1, .ref a7]) ⟨hx, hb, hml, hown, hts⟩ (k_X7_all l D κ β a7 r7 v7_count v7_holes v7_worms H.size i1 i2 i3 (by omega) (by omega) (by omega)) (cwV 0 hts gX11_worms_X7_all rfl rfl rfl (by decide +kernel) ⟨Nat.le_of_ble_eq_true rfl, Nat.le_of_ble_eq_true rfl⟩) (pk_V hK hS hAB hPc hDc 0 (ci := 7) rfl rfl rfl) rfl rfl hl.1 rfl (lv_room (Nat.le_of_ble_eq_true rfl)) dX11_worms_23 ⟨Nat.le_of_ble_eq_true rfl, Nat.le_of_ble_eq_true rfl⟩) (fun x6 u7 H locs hw hPD hS => ?_)
    obtain ⟨h8, h9⟩ : (0 ≤ x6.toInt ∧ x6.toInt ≤ 255) ∧ (x6.toInt = 0) := hw
    obtain ⟨hP, hD⟩ : PD D A [O11 a11 a7 a5 a3 a2 a6 a4 a10 a9 a1 a0 a8 aN, O7 a7 r7 v7_count v7_holes v7_worms, (cI κ (r7 7) 40 f7_wormSheets)] H := hPD
    refine kcm_v hA hAB hP hD hS [false, true, false] rfl (fun _ => rfl) (fun hPc hDc => va_runV (As := [.int p1, .int x6]) (rest := []) ⟨hx, hb, hml, hown, hts⟩ (k_X7_findWorms l D κ β a7 r7 v7_count v7_holes v7_worms H.size p1 x6 i1 i2 i3 (by omega) (by omega) (by omega)) (cwV 2 hts gX11_worms_X7_findWorms rfl rfl rfl (by decide +kernel) ⟨Nat.le_of_ble_eq_true rfl, Nat.le_of_ble_eq_true rfl⟩) (pk_V hK hS hAB hPc hDc 0 (ci := 7) rfl rfl rfl) rfl rfl hl.1 rfl (lv_room (Nat.le_of_ble_eq_true rfl)) dX11_worms_26 ⟨Nat.le_of_ble_eq_true rfl, Nat.le_of_ble_eq_true rfl⟩) (fun x10 H locs hw hPD hS => ?_)
    obtain ⟨h11, h12⟩ : (0 ≤ x10.toInt ∧ x10.toInt ≤ 40) ∧ (x10.toInt = 0) := hw
    obtain ⟨hP, hD⟩ : PD D A [O11 a11 a7 a5 a3 a2 a6 a4 a10 a9 a1 a0 a8 aN, O7 a7 r7 v7_count v7_holes x10, (cI κ (r7 7) 40 f7_wormSheets)] H := hPD
    refine lv_iload_n hx hb dX11_worms_29 rfl (lv_at hl 2 rfl) ?_
    refine lv_iconst (v := (-1)) hx hb dX11_worms_30 (by decide) ?_
    refine lv_icmp_ne (tgt := 42) hx hb dX11_worms_31 (by decide) (fun c13 => ?_) (fun c13 => ?_)
    · have c13 := ci_ne c13
      refine lv_iload_n hx hb dX11_worms_42 rfl (lv_at hl 2 rfl) ?_
      refine lv_aload_n hx hb dX11_worms_43 rfl (lv_at hl 0 rfl) ?_
      refine va_get (D := D) (ci := 11) (v := .ref a7) (C := RX11) (T := TX11) (N := 12) hx hb hts w1 hown hK.1 hP 0 rfl rfl 0 (by decide) w0 (fun _ h9 => h9) rfl dX11_worms_44 ?_
      refine va_get (D := D) (ci := 7) (v := .int x10) (C := RX7) (T := TX7) (N := 9) hx hb hts w3 hown hK.1 hP 1 rfl rfl 8 (by decide) w2 (fun _ h9 => h9) rfl dX11_worms_47 ?_
      refine lv_icmp_ge (tgt := 65) hx hb dX11_worms_50 (by decide) (fun c14 => ?_) (fun c14 => ?_)
      · have c14 := ci_le c14
        refine lv_iconst (v := (-1)) hx hb dX11_worms_65 (by decide) ?_
        have hpo : (0 ≤ x10.toInt ∧ x10.toInt ≤ 40) ∧ (((0 ≤ p1.toInt ∧ p1.toInt ≤ 99 ∧ p2.toInt = -1) ∧ ((-1) : Int32).toInt = 0) ∨ (¬ (0 ≤ p1.toInt ∧ p1.toInt ≤ 99 ∧ p2.toInt = -1) ∧ ((-1) : Int32).toInt = -1)) := ⟨h11, (by omega)⟩
        exact ret _ _ _ _ (-1) x10 dX11_worms_66 hpo hP hD hS
      have c14 := ci_nle c14
      refine lv_aload_n hx hb dX11_worms_53 rfl (lv_at hl 0 rfl) ?_
      refine va_get (D := D) (ci := 11) (v := .ref a7) (C := RX11) (T := TX11) (N := 12) hx hb hts w1 hown hK.1 hP 0 rfl rfl 0 (by decide) w0 (fun _ h9 => h9) rfl dX11_worms_54 ?_
      refine va_get (D := D) (ci := 7) (v := .ref (r7 7)) (C := RX7) (T := TX7) (N := 9) hx hb hts w3 hown hK.1 hP 1 rfl rfl 7 (by decide) w4 (fun _ h9 => h9) rfl dX11_worms_57 ?_
      refine lv_iload_n hx hb dX11_worms_60 rfl (lv_at hl 2 rfl) ?_
      refine va_iald hx hb hK.1 hP 2 1 rfl rfl (i := p2) (ix (by omega) (by omega)) dX11_worms_61 ?_
      refine lv_topi (fun x15 e16 => ?_)
      refine lv_goto (tgt := 66) hx hb dX11_worms_62 (by decide) ?_
      have hpo : (0 ≤ x10.toInt ∧ x10.toInt ≤ 40) ∧ (((0 ≤ p1.toInt ∧ p1.toInt ≤ 99 ∧ p2.toInt = -1) ∧ x15.toInt = 0) ∨ (¬ (0 ≤ p1.toInt ∧ p1.toInt ≤ 99 ∧ p2.toInt = -1) ∧ x15.toInt = -1)) := ⟨h11, (by omega)⟩
      exact ret _ _ _ _ x15 x10 dX11_worms_66 hpo hP hD hS
    have c13 := ci_eq c13
    refine lv_aload_n hx hb dX11_worms_34 rfl (lv_at hl 0 rfl) ?_
    refine va_get (D := D) (ci := 11) (v := .ref a7) (C := RX11) (T := TX11) (N := 12) hx hb hts w1 hown hK.1 hP 0 rfl rfl 0 (by decide) w0 (fun _ h9 => h9) rfl dX11_worms_35 ?_
    refine va_get (D := D) (ci := 7) (v := .int x10) (C := RX7) (T := TX7) (N := 9) hx hb hts w3 hown hK.1 hP 1 rfl rfl 8 (by decide) w2 (fun _ h9 => h9) rfl dX11_worms_38 ?_
    have hpo : (0 ≤ x10.toInt ∧ x10.toInt ≤ 40) ∧ (((0 ≤ p1.toInt ∧ p1.toInt ≤ 99 ∧ p2.toInt = -1) ∧ x10.toInt = 0) ∨ (¬ (0 ≤ p1.toInt ∧ p1.toInt ≤ 99 ∧ p2.toInt = -1) ∧ x10.toInt = -1)) := ⟨h11, (by omega)⟩
    exact ret _ _ _ _ x10 x10 dX11_worms_41 hpo hP hD hS
  have c5 := ci_nle c5
  refine lv_iconst (v := (-1)) hx hb dX11_worms_12 (by decide) ?_
  have hpo : (0 ≤ v7_worms.toInt ∧ v7_worms.toInt ≤ 40) ∧ (((0 ≤ p1.toInt ∧ p1.toInt ≤ 99 ∧ p2.toInt = -1) ∧ ((-1) : Int32).toInt = 0) ∨ (¬ (0 ≤ p1.toInt ∧ p1.toInt ≤ 99 ∧ p2.toInt = -1) ∧ ((-1) : Int32).toInt = -1)) := ⟨i3, (by omega)⟩
  exact ret _ _ _ _ (-1) v7_worms dX11_worms_13 hpo hP hD hS
set_option maxHeartbeats 4000000 in
set_option maxRecDepth 100000 in
theorem k_X11_led (l : Launch) (D : va_G) (κ : Nat → ClassId) (β : Nat) (a11 : Nat) (a7 : Nat) (a5 : Nat) (a3 : Nat) (a2 : Nat) (a6 : Nat) (a4 : Nat) (a10 : Nat) (a9 : Nat) (a1 : Nat) (a0 : Nat) (a8 : Nat) (aN : Nat) (r7 : Nat → Nat) (v7_count : Int32) (v7_holes : Int32) (v7_worms : Int32) (sz : Nat) (p1 : Int32) (p2 : Int32) (i1 : Rg 0 8 v7_count) (i2 : Rg 0 40 v7_holes) (i3 : Rg 0 40 v7_worms) (i4 : v7_count.toInt = 0) (i5 : v7_holes.toInt = 0) (i6 : v7_worms.toInt = 0) : Met l yX11_led wsX11_led ({ frames := 2, cells := 0, slots := 0, locals := 43 } : Room) (PcK D κ β [O11 a11 a7 a5 a3 a2 a6 a4 a10 a9 a1 a0 a8 aN, O7 a7 r7 v7_count v7_holes v7_worms] sz [.ref a11, .int p1, .int p2]) (QiK D (fun (r : Int32) (u : Unit) => r.toInt = -1) (fun (u : Unit) => [O11 a11 a7 a5 a3 a2 a6 a4 a10 a9 a1 a0 a8 aN, O7 a7 r7 v7_count v7_holes v7_worms]) [O11 a11 a7 a5 a3 a2 a6 a4 a10 a9 a1 a0 a8 aN, O7 a7 r7 v7_count v7_holes v7_worms] sz) 0 0 (va_A [O11 a11 a7 a5 a3 a2 a6 a4 a10 a9 a1 a0 a8 aN, O7 a7 r7 v7_count v7_holes v7_worms] sz) := by
  refine ofK_i (cc := cX11_led) (maxL := 3) (own := RX11) (by decide) rfl rfl (Nat.le_of_ble_eq_true rfl) ?_
  intro p e s m args below meth c Q A ls hsz hx hb hml hts hown hK hA hAB hP hD hl ret
  have hS : va_S A s.heap s.heap [] := va_S.rf
  have hl : lv_has ls 3 [(0, .ref a11), (1, .int p1), (2, .int p2)] := hl
  have w0 := hts (.fieldLink RX11 10 "OlderSkin" "sheets" "LOlderSkin$Sheets;") (List.mem_of_getElem? (i := 1) rfl)
  have w1 := (fun w h => List.mem_cons_of_mem _ (List.mem_append_left _ (List.mem_append_right _ h)) : ∀ w ∈ u_ws RX11 TX11 12, w ∈ wsX11_led)
  have l0 : (0 : Int32).toInt = 0 := by decide
  have l1 : ((-1) : Int32).toInt = -1 := by decide
  have i2 : 0 ≤ v7_holes.toInt ∧ v7_holes.toInt ≤ 40 := i2
  have i3 : 0 ≤ v7_worms.toInt ∧ v7_worms.toInt ≤ 40 := i3
  refine lv_aload_n hx hb dX11_led_0 rfl (lv_at hl 0 rfl) ?_
  refine va_get (D := D) (ci := 11) (v := .ref a7) (C := RX11) (T := TX11) (N := 12) hx hb hts w1 hown hK.1 hP 0 rfl rfl 0 (by decide) w0 (fun _ h9 => h9) rfl dX11_led_1 ?_
  refine lv_iload_n hx hb dX11_led_4 rfl (lv_at hl 1 rfl) ?_
  refine kcm_i hA hAB hP hD hS [false, true] rfl (fun _ => rfl) (fun hPc hDc => va_runV (As := [.int p1]) (rest := []) ⟨hx, hb, hml, hown, hts⟩ (k_X7_isHole l D κ β a7 r7 v7_count v7_holes v7_worms s.heap.size p1 i1 i2 i3 (by omega) (by omega) (by omega)) (cwV 1 hts gX11_led_X7_isHole rfl rfl rfl (by decide +kernel) ⟨Nat.le_of_ble_eq_true rfl, Nat.le_of_ble_eq_true rfl⟩) (pk_V hK hS hAB hPc hDc 0 (ci := 7) rfl rfl rfl) rfl rfl hl.1 rfl (lv_room (Nat.le_of_ble_eq_true rfl)) dX11_led_5 ⟨Nat.le_of_ble_eq_true rfl, Nat.le_of_ble_eq_true rfl⟩) (fun x1 u2 H locs hw hPD hS => ?_)
  have h3 : (x1.toInt = 1 ∧ 0 ≤ p1.toInt ∧ p1.toInt < v7_holes.toInt) ∨ (x1.toInt = 0 ∧ (p1.toInt < 0 ∨ v7_holes.toInt ≤ p1.toInt)) := hw
  obtain ⟨hP, hD⟩ : PD D A [O11 a11 a7 a5 a3 a2 a6 a4 a10 a9 a1 a0 a8 aN, O7 a7 r7 v7_count v7_holes v7_worms] H := hPD
  refine lv_if_eq (tgt := 18) hx hb dX11_led_8 (by decide) (fun c4 => ?_) (fun c4 => ?_)
  · have c4 := ci_eq c4
    refine lv_iconst (v := (-1)) hx hb dX11_led_18 (by decide) ?_
    have hpo : ((-1) : Int32).toInt = -1 := (by omega)
    exact ret _ _ _ _ (-1) () dX11_led_19 hpo hP hD hS
  have c4 := ci_ne c4
  exfalso
  omega
set_option maxHeartbeats 4000000 in
set_option maxRecDepth 100000 in
theorem k_X11_findOrders (l : Launch) (D : va_G) (κ : Nat → ClassId) (β : Nat) (a11 : Nat) (a7 : Nat) (a5 : Nat) (a3 : Nat) (a2 : Nat) (a6 : Nat) (a4 : Nat) (a10 : Nat) (a9 : Nat) (a1 : Nat) (a0 : Nat) (a8 : Nat) (aN : Nat) (r7 : Nat → Nat) (r5 : Nat → Nat) (v7_count : Int32) (v7_holes : Int32) (v7_worms : Int32) (f7_wormSheets : Nat → Int32) (v5_all : Int32) (f5_mayFollow : Nat → Int32) (f5_waysTo : Nat → Int32) (f5_waysOn : Nat → Int32) (sz : Nat) (p1 : Int32) (p2 : Int32) (i1 : Rg 0 8 v7_count) (i2 : Rg 0 40 v7_holes) (i3 : Rg 0 40 v7_worms) (i4 : Rg 0 255 v5_all) (hf5_mayFollow : ∀ j : Nat, (f5_mayFollow j).toInt = 0) (i5 : 0 ≤ p2.toInt ∧ p2.toInt ≤ 255) (i6 : p2.toInt = 0) (i7 : v7_count.toInt = 0) (i8 : v7_holes.toInt = 0) (i9 : v7_worms.toInt = 0) : Met l yX11_findOrders wsX11_findOrders ({ frames := 3, cells := 0, slots := 0, locals := 69 } : Room) (PcK D κ β [O11 a11 a7 a5 a3 a2 a6 a4 a10 a9 a1 a0 a8 aN, O7 a7 r7 v7_count v7_holes v7_worms, (cI κ (r7 7) 40 f7_wormSheets), O5 a5 r5 v5_all, (cI κ (r5 1) 256 f5_mayFollow), (cI κ (r5 2) 256 f5_waysTo), (cI κ (r5 3) 256 f5_waysOn)] sz [.ref a11, .int p1, .int p2]) (QvK D (fun (u : Int32 × Int32 × (Nat → Int32) × (Nat → Int32) × (Nat → Int32)) => (0 ≤ u.1.toInt ∧ u.1.toInt ≤ 40) ∧ (0 ≤ u.2.1.toInt ∧ u.2.1.toInt ≤ 255) ∧ (∀ j : Nat, (u.2.2.1 j).toInt = 0) ∧ ((u.2.2.2.2 0).toInt = 1) ∧ (u.2.1.toInt = 0)) (fun (u : Int32 × Int32 × (Nat → Int32) × (Nat → Int32) × (Nat → Int32)) => [O11 a11 a7 a5 a3 a2 a6 a4 a10 a9 a1 a0 a8 aN, O7 a7 r7 v7_count v7_holes u.1, (cI κ (r7 7) 40 f7_wormSheets), O5 a5 r5 u.2.1, (cI κ (r5 1) 256 u.2.2.1), (cI κ (r5 2) 256 u.2.2.2.1), (cI κ (r5 3) 256 u.2.2.2.2)]) [O11 a11 a7 a5 a3 a2 a6 a4 a10 a9 a1 a0 a8 aN, O7 a7 r7 v7_count v7_holes v7_worms, (cI κ (r7 7) 40 f7_wormSheets), O5 a5 r5 v5_all, (cI κ (r5 1) 256 f5_mayFollow), (cI κ (r5 2) 256 f5_waysTo), (cI κ (r5 3) 256 f5_waysOn)] sz) 0 0 (va_A [O11 a11 a7 a5 a3 a2 a6 a4 a10 a9 a1 a0 a8 aN, O7 a7 r7 v7_count v7_holes v7_worms, (cI κ (r7 7) 40 f7_wormSheets), O5 a5 r5 v5_all, (cI κ (r5 1) 256 f5_mayFollow), (cI κ (r5 2) 256 f5_waysTo), (cI κ (r5 3) 256 f5_waysOn)] sz) := by
  refine ofK_v (cc := cX11_findOrders) (maxL := 3) (own := RX11) (by decide) rfl rfl (Nat.le_of_ble_eq_true rfl) ?_
  intro p e s m args below meth c Q A ls hsz hx hb hml hts hown hK hA hAB hP hD hl hname ret
  have hS : va_S A s.heap s.heap [] := va_S.rf
  have hl : lv_has ls 3 [(0, .ref a11), (1, .int p1), (2, .int p2)] := hl
  have w0 := hts (.fieldLink RX11 10 "OlderSkin" "sheets" "LOlderSkin$Sheets;") (List.mem_of_getElem? (i := 1) rfl)
  have w1 := (fun w h => List.mem_cons_of_mem _ (List.mem_append_left _ (List.mem_append_left _ (List.mem_append_right _ h))) : ∀ w ∈ u_ws RX11 TX11 12, w ∈ wsX11_findOrders)
  have w2 := hts (.fieldLink RX11 19 "OlderSkin" "orders" "LOlderSkin$Orders;") (List.mem_of_getElem? (i := 2) rfl)
  have w3 := hts (.fieldLink RX11 135 "OlderSkin$Sheets" "wormSheets" "[I") (List.mem_of_getElem? (i := 3) rfl)
  have w4 := (fun w h => List.mem_cons_of_mem _ (List.mem_append_left _ (List.mem_append_right _ h)) : ∀ w ∈ u_ws RX7 TX7 9, w ∈ wsX11_findOrders)
  have w5 := hts (.fieldLink RX11 131 "OlderSkin$Sheets" "worms" "I") (List.mem_of_getElem? (i := 4) rfl)
  have i3 : 0 ≤ v7_worms.toInt ∧ v7_worms.toInt ≤ 40 := i3
  have i4 : 0 ≤ v5_all.toInt ∧ v5_all.toInt ≤ 255 := i4
  refine lv_aload_n hx hb dX11_findOrders_0 rfl (lv_at hl 0 rfl) ?_
  refine va_get (D := D) (ci := 11) (v := .ref a7) (C := RX11) (T := TX11) (N := 12) hx hb hts w1 hown hK.1 hP 0 rfl rfl 0 (by decide) w0 (fun _ h9 => h9) rfl dX11_findOrders_1 ?_
  refine lv_iload_n hx hb dX11_findOrders_4 rfl (lv_at hl 1 rfl) ?_
  refine lv_iload_n hx hb dX11_findOrders_5 rfl (lv_at hl 2 rfl) ?_
  refine kcm_v hA hAB hP hD hS [false, true, false, false, false, false, false] rfl (fun _ => rfl) (fun hPc hDc => va_runV (As := [.int p1, .int p2]) (rest := []) ⟨hx, hb, hml, hown, hts⟩ (k_X7_findWorms l D κ β a7 r7 v7_count v7_holes v7_worms s.heap.size p1 p2 i1 i2 i3 (by omega) (by omega) (by omega)) (cwV 2 hts gX11_findOrders_X7_findWorms rfl rfl rfl (by decide +kernel) ⟨Nat.le_of_ble_eq_true rfl, Nat.le_of_ble_eq_true rfl⟩) (pk_V hK hS hAB hPc hDc 0 (ci := 7) rfl rfl rfl) rfl rfl hl.1 rfl (lv_room (Nat.le_of_ble_eq_true rfl)) dX11_findOrders_6 ⟨Nat.le_of_ble_eq_true rfl, Nat.le_of_ble_eq_true rfl⟩) (fun x1 H locs hw hPD hS => ?_)
  obtain ⟨h2, h3⟩ : (0 ≤ x1.toInt ∧ x1.toInt ≤ 40) ∧ (x1.toInt = 0) := hw
  obtain ⟨hP, hD⟩ : PD D A [O11 a11 a7 a5 a3 a2 a6 a4 a10 a9 a1 a0 a8 aN, O7 a7 r7 v7_count v7_holes x1, (cI κ (r7 7) 40 f7_wormSheets), O5 a5 r5 v5_all, (cI κ (r5 1) 256 f5_mayFollow), (cI κ (r5 2) 256 f5_waysTo), (cI κ (r5 3) 256 f5_waysOn)] H := hPD
  refine lv_aload_n hx hb dX11_findOrders_9 rfl (lv_at hl 0 rfl) ?_
  refine va_get (D := D) (ci := 11) (v := .ref a5) (C := RX11) (T := TX11) (N := 12) hx hb hts w1 hown hK.1 hP 0 rfl rfl 1 (by decide) w2 (fun _ h9 => h9) rfl dX11_findOrders_10 ?_
  refine lv_iload_n hx hb dX11_findOrders_13 rfl (lv_at hl 2 rfl) ?_
  refine lv_aload_n hx hb dX11_findOrders_14 rfl (lv_at hl 0 rfl) ?_
  refine va_get (D := D) (ci := 11) (v := .ref a7) (C := RX11) (T := TX11) (N := 12) hx hb hts w1 hown hK.1 hP 0 rfl rfl 0 (by decide) w0 (fun _ h9 => h9) rfl dX11_findOrders_15 ?_
  refine va_get (D := D) (ci := 7) (v := .ref (r7 7)) (C := RX7) (T := TX7) (N := 9) hx hb hts w4 hown hK.1 hP 1 rfl rfl 7 (by decide) w3 (fun _ h9 => h9) rfl dX11_findOrders_18 ?_
  refine lv_aload_n hx hb dX11_findOrders_21 rfl (lv_at hl 0 rfl) ?_
  refine va_get (D := D) (ci := 11) (v := .ref a7) (C := RX11) (T := TX11) (N := 12) hx hb hts w1 hown hK.1 hP 0 rfl rfl 0 (by decide) w0 (fun _ h9 => h9) rfl dX11_findOrders_22 ?_
  refine va_get (D := D) (ci := 7) (v := .int x1) (C := RX7) (T := TX7) (N := 9) hx hb hts w4 hown hK.1 hP 1 rfl rfl 8 (by decide) w5 (fun _ h9 => h9) rfl dX11_findOrders_25 ?_
  refine kc_v hA hAB hP hD hS (wc := [O5 a5 r5 v5_all, (cI κ (r5 1) 256 f5_mayFollow), (cI κ (r5 2) 256 f5_waysTo), (cI κ (r5 3) 256 f5_waysOn), (cI κ (r7 7) 40 f7_wormSheets)]) (wr := [O11 a11 a7 a5 a3 a2 a6 a4 a10 a9 a1 a0 a8 aN, O7 a7 r7 v7_count v7_holes x1]) [3, 4, 5, 6, 2] [0, 1] rfl rfl (by decide) (by decide) (by decide) (fun hPc hDc => va_runV (As := [.int p2, .ref (r7 7), .int x1]) (rest := []) ⟨hx, hb, hml, hown, hts⟩ (k_X5_lay l D κ β a5 r5 v5_all f5_mayFollow f5_waysTo f5_waysOn f7_wormSheets H.size p2 (r7 7) x1 i4 hf5_mayFollow (by omega) (by omega) (by omega) (by omega)) (cwV 3 hts gX11_findOrders_X5_lay rfl rfl rfl (by decide +kernel) ⟨Nat.le_of_ble_eq_true rfl, Nat.le_of_ble_eq_true rfl⟩) (pk_V hK hS hAB hPc hDc 0 (ci := 5) rfl rfl rfl) rfl rfl hl.1 rfl (lv_room (Nat.le_of_ble_eq_true rfl)) dX11_findOrders_28 ⟨Nat.le_of_ble_eq_true rfl, Nat.le_of_ble_eq_true rfl⟩) (fun u8 H locs hw hP hD hS => ?_)
  obtain ⟨x4, g5, g6, g7⟩ := u8
  obtain ⟨h9, h10, h11, h12⟩ : (0 ≤ x4.toInt ∧ x4.toInt ≤ 255) ∧ (∀ j : Nat, (g5 j).toInt = 0) ∧ ((g7 0).toInt = 1) ∧ (x4.toInt = 0) := hw
  obtain ⟨hP, hD⟩ : PD D A [O11 a11 a7 a5 a3 a2 a6 a4 a10 a9 a1 a0 a8 aN, O7 a7 r7 v7_count v7_holes x1, O5 a5 r5 x4, (cI κ (r5 1) 256 g5), (cI κ (r5 2) 256 g6), (cI κ (r5 3) 256 g7), (cI κ (r7 7) 40 f7_wormSheets)] H := ⟨hP, hD⟩
  obtain ⟨hP, hD⟩ : PD D A [O11 a11 a7 a5 a3 a2 a6 a4 a10 a9 a1 a0 a8 aN, O7 a7 r7 v7_count v7_holes x1, (cI κ (r7 7) 40 f7_wormSheets), O5 a5 r5 x4, (cI κ (r5 1) 256 g5), (cI κ (r5 2) 256 g6), (cI κ (r5 3) 256 g7)] H := ⟨hP.sub [0, 1, 6, 2, 3, 4, 5] rfl, hD.sub [0, 1, 6, 2, 3, 4, 5] (by decide) rfl⟩
  have hpo : (0 ≤ x1.toInt ∧ x1.toInt ≤ 40) ∧ (0 ≤ x4.toInt ∧ x4.toInt ≤ 255) ∧ (∀ j : Nat, (g5 j).toInt = 0) ∧ ((g7 0).toInt = 1) ∧ (x4.toInt = 0) := ⟨h2, h9, h10, (by omega), (by omega)⟩
  exact ret _ _ _ _ (x1, x4, g5, g6, g7) dX11_findOrders_31 hpo hP hD hS
set_option maxHeartbeats 4000000 in
set_option maxRecDepth 100000 in
theorem k_X11_orders (l : Launch) (D : va_G) (κ : Nat → ClassId) (β : Nat) (a11 : Nat) (a7 : Nat) (a5 : Nat) (a3 : Nat) (a2 : Nat) (a6 : Nat) (a4 : Nat) (a10 : Nat) (a9 : Nat) (a1 : Nat) (a0 : Nat) (a8 : Nat) (aN : Nat) (r7 : Nat → Nat) (r5 : Nat → Nat) (v7_count : Int32) (v7_holes : Int32) (v7_worms : Int32) (f7_wormSheets : Nat → Int32) (v5_all : Int32) (f5_mayFollow : Nat → Int32) (f5_waysTo : Nat → Int32) (f5_waysOn : Nat → Int32) (sz : Nat) (p1 : Int32) (p2 : Int32) (i1 : Rg 0 8 v7_count) (i2 : Rg 0 40 v7_holes) (i3 : Rg 0 40 v7_worms) (i4 : Rg 0 255 v5_all) (hf5_mayFollow : ∀ j : Nat, (f5_mayFollow j).toInt = 0) (i5 : v7_count.toInt = 0) (i6 : v7_holes.toInt = 0) (i7 : v7_worms.toInt = 0) : Met l yX11_orders wsX11_orders ({ frames := 4, cells := 0, slots := 0, locals := 91 } : Room) (PcK D κ β [O11 a11 a7 a5 a3 a2 a6 a4 a10 a9 a1 a0 a8 aN, O7 a7 r7 v7_count v7_holes v7_worms, (cI κ (r7 7) 40 f7_wormSheets), O5 a5 r5 v5_all, (cI κ (r5 1) 256 f5_mayFollow), (cI κ (r5 2) 256 f5_waysTo), (cI κ (r5 3) 256 f5_waysOn)] sz [.ref a11, .int p1, .int p2]) (QiK D (fun (r : Int32) (u : Int32 × Int32 × (Nat → Int32) × (Nat → Int32) × (Nat → Int32)) => (0 ≤ u.1.toInt ∧ u.1.toInt ≤ 40) ∧ (0 ≤ u.2.1.toInt ∧ u.2.1.toInt ≤ 255) ∧ (∀ j : Nat, (u.2.2.1 j).toInt = 0) ∧ (((0 ≤ p1.toInt ∧ p1.toInt ≤ 99) ∧ p2.toInt = 0 ∧ r.toInt = 1) ∨ ((0 ≤ p1.toInt ∧ p1.toInt ≤ 99) ∧ p2.toInt = 1 ∧ r.toInt = 0) ∨ (¬ (0 ≤ p1.toInt ∧ p1.toInt ≤ 99 ∧ 0 ≤ p2.toInt ∧ p2.toInt ≤ 1) ∧ r.toInt = -1))) (fun (u : Int32 × Int32 × (Nat → Int32) × (Nat → Int32) × (Nat → Int32)) => [O11 a11 a7 a5 a3 a2 a6 a4 a10 a9 a1 a0 a8 aN, O7 a7 r7 v7_count v7_holes u.1, (cI κ (r7 7) 40 f7_wormSheets), O5 a5 r5 u.2.1, (cI κ (r5 1) 256 u.2.2.1), (cI κ (r5 2) 256 u.2.2.2.1), (cI κ (r5 3) 256 u.2.2.2.2)]) [O11 a11 a7 a5 a3 a2 a6 a4 a10 a9 a1 a0 a8 aN, O7 a7 r7 v7_count v7_holes v7_worms, (cI κ (r7 7) 40 f7_wormSheets), O5 a5 r5 v5_all, (cI κ (r5 1) 256 f5_mayFollow), (cI κ (r5 2) 256 f5_waysTo), (cI κ (r5 3) 256 f5_waysOn)] sz) 0 0 (va_A [O11 a11 a7 a5 a3 a2 a6 a4 a10 a9 a1 a0 a8 aN, O7 a7 r7 v7_count v7_holes v7_worms, (cI κ (r7 7) 40 f7_wormSheets), O5 a5 r5 v5_all, (cI κ (r5 1) 256 f5_mayFollow), (cI κ (r5 2) 256 f5_waysTo), (cI κ (r5 3) 256 f5_waysOn)] sz) := by
  refine ofK_i (cc := cX11_orders) (maxL := 3) (own := RX11) (by decide) rfl rfl (Nat.le_of_ble_eq_true rfl) ?_
  intro p e s m args below meth c Q A ls hsz hx hb hml hts hown hK hA hAB hP hD hl ret
  have hS : va_S A s.heap s.heap [] := va_S.rf
  have hl : lv_has ls 3 [(0, .ref a11), (1, .int p1), (2, .int p2)] := hl
  have w0 := hts (.fieldLink RX11 10 "OlderSkin" "sheets" "LOlderSkin$Sheets;") (List.mem_of_getElem? (i := 1) rfl)
  have w1 := (fun w h => List.mem_cons_of_mem _ (List.mem_append_left _ (List.mem_append_left _ (List.mem_append_right _ h))) : ∀ w ∈ u_ws RX11 TX11 12, w ∈ wsX11_orders)
  have w2 := hts (.fieldLink RX11 147 "OlderSkin$Sheets" "count" "I") (List.mem_of_getElem? (i := 2) rfl)
  have w3 := (fun w h => List.mem_cons_of_mem _ (List.mem_append_left _ (List.mem_append_right _ h)) : ∀ w ∈ u_ws RX7 TX7 9, w ∈ wsX11_orders)
  have w4 := hts (.fieldLink RX11 19 "OlderSkin" "orders" "LOlderSkin$Orders;") (List.mem_of_getElem? (i := 3) rfl)
  have l0 : (0 : Int32).toInt = 0 := by decide
  have l1 : ((-1) : Int32).toInt = -1 := by decide
  have l2 : (6 : Int32).toInt = 6 := by decide
  have l3 : ((-4) : Int32).toInt = -4 := by decide
  have i1 : 0 ≤ v7_count.toInt ∧ v7_count.toInt ≤ 8 := i1
  have i4 : 0 ≤ v5_all.toInt ∧ v5_all.toInt ≤ 255 := i4
  refine lv_iload_n hx hb dX11_orders_0 rfl (lv_at hl 1 rfl) ?_
  refine kcm_i hA hAB hP hD hS [false, false, false, false, false, false, false] rfl (fun _ => rfl) (fun hPc hDc => va_runS (As := [.int p1]) (rest := []) ⟨hx, hb, hml, hown, hts⟩ (k_X11_isSlack l D κ β s.heap.size p1) (va_cwS 1 hts gX11_orders_X11_isSlack rfl rfl rfl (by decide +kernel) ⟨Nat.le_of_ble_eq_true rfl, Nat.le_of_ble_eq_true rfl⟩) (pk_S hK hS hAB hPc hDc) rfl rfl hl.1 rfl (lv_room (Nat.le_of_ble_eq_true rfl)) dX11_orders_1 ⟨Nat.le_of_ble_eq_true rfl, Nat.le_of_ble_eq_true rfl⟩) (fun x1 u2 H locs hw hPD hS => ?_)
  have h3 : (x1.toInt = 1 ∧ 0 ≤ p1.toInt ∧ p1.toInt ≤ 99) ∨ (x1.toInt = 0 ∧ (p1.toInt < 0 ∨ 99 < p1.toInt)) := hw
  obtain ⟨hP, hD⟩ : PD D A [O11 a11 a7 a5 a3 a2 a6 a4 a10 a9 a1 a0 a8 aN, O7 a7 r7 v7_count v7_holes v7_worms, (cI κ (r7 7) 40 f7_wormSheets), O5 a5 r5 v5_all, (cI κ (r5 1) 256 f5_mayFollow), (cI κ (r5 2) 256 f5_waysTo), (cI κ (r5 3) 256 f5_waysOn)] H := hPD
  refine lv_if_eq (tgt := 14) hx hb dX11_orders_4 (by decide) (fun c4 => ?_) (fun c4 => ?_)
  · have c4 := ci_eq c4
    refine lv_iconst (v := (-1)) hx hb dX11_orders_14 (by decide) ?_
    have hpo : (0 ≤ v7_worms.toInt ∧ v7_worms.toInt ≤ 40) ∧ (0 ≤ v5_all.toInt ∧ v5_all.toInt ≤ 255) ∧ (∀ j : Nat, (f5_mayFollow j).toInt = 0) ∧ (((0 ≤ p1.toInt ∧ p1.toInt ≤ 99) ∧ p2.toInt = 0 ∧ ((-1) : Int32).toInt = 1) ∨ ((0 ≤ p1.toInt ∧ p1.toInt ≤ 99) ∧ p2.toInt = 1 ∧ ((-1) : Int32).toInt = 0) ∨ (¬ (0 ≤ p1.toInt ∧ p1.toInt ≤ 99 ∧ 0 ≤ p2.toInt ∧ p2.toInt ≤ 1) ∧ ((-1) : Int32).toInt = -1)) := ⟨i3, i4, hf5_mayFollow, (by omega)⟩
    exact ret _ _ _ _ (-1) (v7_worms, v5_all, f5_mayFollow, f5_waysTo, f5_waysOn) dX11_orders_15 hpo hP hD hS
  have c4 := ci_ne c4
  refine lv_iload_n hx hb dX11_orders_7 rfl (lv_at hl 2 rfl) ?_
  refine kcm_i hA hAB hP hD hS [false, false, false, false, false, false, false] rfl (fun _ => rfl) (fun hPc hDc => va_runS (As := [.int p2]) (rest := []) ⟨hx, hb, hml, hown, hts⟩ (k_X11_isBit l D κ β H.size p2) (va_cwS 1 hts gX11_orders_X11_isBit rfl rfl rfl (by decide +kernel) ⟨Nat.le_of_ble_eq_true rfl, Nat.le_of_ble_eq_true rfl⟩) (pk_S hK hS hAB hPc hDc) rfl rfl hl.1 rfl (lv_room (Nat.le_of_ble_eq_true rfl)) dX11_orders_8 ⟨Nat.le_of_ble_eq_true rfl, Nat.le_of_ble_eq_true rfl⟩) (fun x5 u6 H locs hw hPD hS => ?_)
  have h7 : (x5.toInt = 1 ∧ 0 ≤ p2.toInt ∧ p2.toInt ≤ 1) ∨ (x5.toInt = 0 ∧ (p2.toInt < 0 ∨ 1 < p2.toInt)) := hw
  obtain ⟨hP, hD⟩ : PD D A [O11 a11 a7 a5 a3 a2 a6 a4 a10 a9 a1 a0 a8 aN, O7 a7 r7 v7_count v7_holes v7_worms, (cI κ (r7 7) 40 f7_wormSheets), O5 a5 r5 v5_all, (cI κ (r5 1) 256 f5_mayFollow), (cI κ (r5 2) 256 f5_waysTo), (cI κ (r5 3) 256 f5_waysOn)] H := hPD
  refine lv_if_ne (tgt := 16) hx hb dX11_orders_11 (by decide) (fun c8 => ?_) (fun c8 => ?_)
  · have c8 := ci_ne c8
    refine lv_aload_n hx hb dX11_orders_16 rfl (lv_at hl 0 rfl) ?_
    refine va_get (D := D) (ci := 11) (v := .ref a7) (C := RX11) (T := TX11) (N := 12) hx hb hts w1 hown hK.1 hP 0 rfl rfl 0 (by decide) w0 (fun _ h9 => h9) rfl dX11_orders_17 ?_
    refine va_get (D := D) (ci := 7) (v := .int v7_count) (C := RX7) (T := TX7) (N := 9) hx hb hts w3 hown hK.1 hP 1 rfl rfl 1 (by decide) w2 (fun _ h9 => h9) rfl dX11_orders_20 ?_
    refine lv_bipush (v := 6) hx hb dX11_orders_23 (by decide) ?_
    refine lv_icmp_le (tgt := 31) hx hb dX11_orders_25 (by decide) (fun c9 => ?_) (fun c9 => ?_)
    · have c9 := ci_le c9
      refine lv_aload_n hx hb dX11_orders_31 rfl (lv_at hl 0 rfl) ?_
      refine lv_iload_n hx hb dX11_orders_32 rfl (lv_at hl 1 rfl) ?_
      refine lv_aload_n hx hb dX11_orders_33 rfl (lv_at hl 0 rfl) ?_
      refine va_get (D := D) (ci := 11) (v := .ref a7) (C := RX11) (T := TX11) (N := 12) hx hb hts w1 hown hK.1 hP 0 rfl rfl 0 (by decide) w0 (fun _ h9 => h9) rfl dX11_orders_34 ?_
      refine kcm_i hA hAB hP hD hS [false, true, false, false, false, false, false] rfl (fun _ => rfl) (fun hPc hDc => va_runV (As := []) (rest := [.int p1, .ref a11]) ⟨hx, hb, hml, hown, hts⟩ (k_X7_all l D κ β a7 r7 v7_count v7_holes v7_worms H.size i1 i2 i3 (by omega) (by omega) (by omega)) (cwV 0 hts gX11_orders_X7_all rfl rfl rfl (by decide +kernel) ⟨Nat.le_of_ble_eq_true rfl, Nat.le_of_ble_eq_true rfl⟩) (pk_V hK hS hAB hPc hDc 0 (ci := 7) rfl rfl rfl) rfl rfl hl.1 rfl (lv_room (Nat.le_of_ble_eq_true rfl)) dX11_orders_37 ⟨Nat.le_of_ble_eq_true rfl, Nat.le_of_ble_eq_true rfl⟩) (fun x10 u11 H locs hw hPD hS => ?_)
      obtain ⟨h12, h13⟩ : (0 ≤ x10.toInt ∧ x10.toInt ≤ 255) ∧ (x10.toInt = 0) := hw
      obtain ⟨hP, hD⟩ : PD D A [O11 a11 a7 a5 a3 a2 a6 a4 a10 a9 a1 a0 a8 aN, O7 a7 r7 v7_count v7_holes v7_worms, (cI κ (r7 7) 40 f7_wormSheets), O5 a5 r5 v5_all, (cI κ (r5 1) 256 f5_mayFollow), (cI κ (r5 2) 256 f5_waysTo), (cI κ (r5 3) 256 f5_waysOn)] H := hPD
      refine kcm_v hA hAB hP hD hS [true, true, true, true, true, true, true] rfl (fun _ => rfl) (fun hPc hDc => va_runV (As := [.int p1, .int x10]) (rest := []) ⟨hx, hb, hml, hown, hts⟩ (k_X11_findOrders l D κ β a11 a7 a5 a3 a2 a6 a4 a10 a9 a1 a0 a8 aN r7 r5 v7_count v7_holes v7_worms f7_wormSheets v5_all f5_mayFollow f5_waysTo f5_waysOn H.size p1 x10 i1 i2 i3 i4 hf5_mayFollow (by omega) (by omega) (by omega) (by omega) (by omega)) (cwV 2 hts gX11_orders_X11_findOrders rfl rfl rfl (by decide +kernel) ⟨Nat.le_of_ble_eq_true rfl, Nat.le_of_ble_eq_true rfl⟩) (pk_V hK hS hAB hPc hDc 0 (ci := 11) rfl rfl rfl) rfl rfl hl.1 rfl (lv_room (Nat.le_of_ble_eq_true rfl)) dX11_orders_40 ⟨Nat.le_of_ble_eq_true rfl, Nat.le_of_ble_eq_true rfl⟩) (fun u19 H locs hw hPD hS => ?_)
      obtain ⟨x14, x15, g16, g17, g18⟩ := u19
      obtain ⟨h20, h21, h22, h23, h24⟩ : (Rg 0 40 x14) ∧ (0 ≤ x15.toInt ∧ x15.toInt ≤ 255) ∧ (∀ j : Nat, (g16 j).toInt = 0) ∧ ((g18 0).toInt = 1) ∧ (x15.toInt = 0) := hw
      obtain ⟨hP, hD⟩ : PD D A [O11 a11 a7 a5 a3 a2 a6 a4 a10 a9 a1 a0 a8 aN, O7 a7 r7 v7_count v7_holes x14, (cI κ (r7 7) 40 f7_wormSheets), O5 a5 r5 x15, (cI κ (r5 1) 256 g16), (cI κ (r5 2) 256 g17), (cI κ (r5 3) 256 g18)] H := hPD
      refine lv_iload_n hx hb dX11_orders_43 rfl (lv_at hl 2 rfl) ?_
      refine lv_if_ne (tgt := 57) hx hb dX11_orders_44 (by decide) (fun c25 => ?_) (fun c25 => ?_)
      · have c25 := ci_ne c25
        refine lv_aload_n hx hb dX11_orders_57 rfl (lv_at hl 0 rfl) ?_
        refine va_get (D := D) (ci := 11) (v := .ref a5) (C := RX11) (T := TX11) (N := 12) hx hb hts w1 hown hK.1 hP 0 rfl rfl 1 (by decide) w4 (fun _ h9 => h9) rfl dX11_orders_58 ?_
        refine kcm_i hA hAB hP hD hS [false, false, false, true, false, false, true] rfl (fun _ => rfl) (fun hPc hDc => va_runV (As := []) (rest := []) ⟨hx, hb, hml, hown, hts⟩ (k_X5_firstAsDigits l D κ β a5 r5 x15 g18 H.size h21 (by omega) (by omega)) (cwV 0 hts gX11_orders_X5_firstAsDigits rfl rfl rfl (by decide +kernel) ⟨Nat.le_of_ble_eq_true rfl, Nat.le_of_ble_eq_true rfl⟩) (pk_V hK hS hAB hPc hDc 0 (ci := 5) rfl rfl rfl) rfl rfl hl.1 rfl (lv_room (Nat.le_of_ble_eq_true rfl)) dX11_orders_61 ⟨Nat.le_of_ble_eq_true rfl, Nat.le_of_ble_eq_true rfl⟩) (fun x26 u27 H locs hw hPD hS => ?_)
        have h28 : x26.toInt = 0 := hw
        obtain ⟨hP, hD⟩ : PD D A [O11 a11 a7 a5 a3 a2 a6 a4 a10 a9 a1 a0 a8 aN, O7 a7 r7 v7_count v7_holes x14, (cI κ (r7 7) 40 f7_wormSheets), O5 a5 r5 x15, (cI κ (r5 1) 256 g16), (cI κ (r5 2) 256 g17), (cI κ (r5 3) 256 g18)] H := hPD
        have hpo : (0 ≤ x14.toInt ∧ x14.toInt ≤ 40) ∧ (0 ≤ x15.toInt ∧ x15.toInt ≤ 255) ∧ (∀ j : Nat, (g16 j).toInt = 0) ∧ (((0 ≤ p1.toInt ∧ p1.toInt ≤ 99) ∧ p2.toInt = 0 ∧ x26.toInt = 1) ∨ ((0 ≤ p1.toInt ∧ p1.toInt ≤ 99) ∧ p2.toInt = 1 ∧ x26.toInt = 0) ∨ (¬ (0 ≤ p1.toInt ∧ p1.toInt ≤ 99 ∧ 0 ≤ p2.toInt ∧ p2.toInt ≤ 1) ∧ x26.toInt = -1)) := ⟨h20, h21, h22, (by omega)⟩
        exact ret _ _ _ _ x26 (x14, x15, g16, g17, g18) dX11_orders_64 hpo hP hD hS
      have c25 := ci_eq c25
      refine lv_aload_n hx hb dX11_orders_47 rfl (lv_at hl 0 rfl) ?_
      refine va_get (D := D) (ci := 11) (v := .ref a5) (C := RX11) (T := TX11) (N := 12) hx hb hts w1 hown hK.1 hP 0 rfl rfl 1 (by decide) w4 (fun _ h9 => h9) rfl dX11_orders_48 ?_
      refine kcm_i hA hAB hP hD hS [false, false, false, true, false, false, true] rfl (fun _ => rfl) (fun hPc hDc => va_runV (As := []) (rest := []) ⟨hx, hb, hml, hown, hts⟩ (k_X5_howMany l D κ β a5 r5 x15 g18 H.size h21 (by omega)) (cwV 0 hts gX11_orders_X5_howMany rfl rfl rfl (by decide +kernel) ⟨Nat.le_of_ble_eq_true rfl, Nat.le_of_ble_eq_true rfl⟩) (pk_V hK hS hAB hPc hDc 0 (ci := 5) rfl rfl rfl) rfl rfl hl.1 rfl (lv_room (Nat.le_of_ble_eq_true rfl)) dX11_orders_51 ⟨Nat.le_of_ble_eq_true rfl, Nat.le_of_ble_eq_true rfl⟩) (fun x29 u30 H locs hw hPD hS => ?_)
      have h31 : x29.toInt = 1 := hw
      obtain ⟨hP, hD⟩ : PD D A [O11 a11 a7 a5 a3 a2 a6 a4 a10 a9 a1 a0 a8 aN, O7 a7 r7 v7_count v7_holes x14, (cI κ (r7 7) 40 f7_wormSheets), O5 a5 r5 x15, (cI κ (r5 1) 256 g16), (cI κ (r5 2) 256 g17), (cI κ (r5 3) 256 g18)] H := hPD
      refine lv_goto (tgt := 64) hx hb dX11_orders_54 (by decide) ?_
      have hpo : (0 ≤ x14.toInt ∧ x14.toInt ≤ 40) ∧ (0 ≤ x15.toInt ∧ x15.toInt ≤ 255) ∧ (∀ j : Nat, (g16 j).toInt = 0) ∧ (((0 ≤ p1.toInt ∧ p1.toInt ≤ 99) ∧ p2.toInt = 0 ∧ x29.toInt = 1) ∨ ((0 ≤ p1.toInt ∧ p1.toInt ≤ 99) ∧ p2.toInt = 1 ∧ x29.toInt = 0) ∨ (¬ (0 ≤ p1.toInt ∧ p1.toInt ≤ 99 ∧ 0 ≤ p2.toInt ∧ p2.toInt ≤ 1) ∧ x29.toInt = -1)) := ⟨h20, h21, h22, (by omega)⟩
      exact ret _ _ _ _ x29 (x14, x15, g16, g17, g18) dX11_orders_64 hpo hP hD hS
    have c9 := ci_nle c9
    refine lv_bipush (v := (-4)) hx hb dX11_orders_28 (by decide) ?_
    have hpo : (0 ≤ v7_worms.toInt ∧ v7_worms.toInt ≤ 40) ∧ (0 ≤ v5_all.toInt ∧ v5_all.toInt ≤ 255) ∧ (∀ j : Nat, (f5_mayFollow j).toInt = 0) ∧ (((0 ≤ p1.toInt ∧ p1.toInt ≤ 99) ∧ p2.toInt = 0 ∧ ((-4) : Int32).toInt = 1) ∨ ((0 ≤ p1.toInt ∧ p1.toInt ≤ 99) ∧ p2.toInt = 1 ∧ ((-4) : Int32).toInt = 0) ∨ (¬ (0 ≤ p1.toInt ∧ p1.toInt ≤ 99 ∧ 0 ≤ p2.toInt ∧ p2.toInt ≤ 1) ∧ ((-4) : Int32).toInt = -1)) := ⟨i3, i4, hf5_mayFollow, (by omega)⟩
    exact ret _ _ _ _ (-4) (v7_worms, v5_all, f5_mayFollow, f5_waysTo, f5_waysOn) dX11_orders_30 hpo hP hD hS
  have c8 := ci_eq c8
  refine lv_iconst (v := (-1)) hx hb dX11_orders_14 (by decide) ?_
  have hpo : (0 ≤ v7_worms.toInt ∧ v7_worms.toInt ≤ 40) ∧ (0 ≤ v5_all.toInt ∧ v5_all.toInt ≤ 255) ∧ (∀ j : Nat, (f5_mayFollow j).toInt = 0) ∧ (((0 ≤ p1.toInt ∧ p1.toInt ≤ 99) ∧ p2.toInt = 0 ∧ ((-1) : Int32).toInt = 1) ∨ ((0 ≤ p1.toInt ∧ p1.toInt ≤ 99) ∧ p2.toInt = 1 ∧ ((-1) : Int32).toInt = 0) ∨ (¬ (0 ≤ p1.toInt ∧ p1.toInt ≤ 99 ∧ 0 ≤ p2.toInt ∧ p2.toInt ≤ 1) ∧ ((-1) : Int32).toInt = -1)) := ⟨i3, i4, hf5_mayFollow, (by omega)⟩
  exact ret _ _ _ _ (-1) (v7_worms, v5_all, f5_mayFollow, f5_waysTo, f5_waysOn) dX11_orders_15 hpo hP hD hS
set_option maxHeartbeats 4000000 in
set_option maxRecDepth 100000 in
theorem k_X11_side (l : Launch) (D : va_G) (κ : Nat → ClassId) (β : Nat) (a11 : Nat) (a7 : Nat) (a5 : Nat) (a3 : Nat) (a2 : Nat) (a6 : Nat) (a4 : Nat) (a10 : Nat) (a9 : Nat) (a1 : Nat) (a0 : Nat) (a8 : Nat) (aN : Nat) (r7 : Nat → Nat) (v7_count : Int32) (v7_holes : Int32) (v7_worms : Int32) (sz : Nat) (p1 : Int32) (p2 : Int32) (p3 : Int32) (i1 : Rg 0 8 v7_count) (i2 : Rg 0 40 v7_holes) (i3 : Rg 0 40 v7_worms) (i4 : v7_count.toInt = 0) (i5 : v7_holes.toInt = 0) (i6 : v7_worms.toInt = 0) : Met l yX11_side wsX11_side ({ frames := 2, cells := 0, slots := 0, locals := 43 } : Room) (PcK D κ β [O11 a11 a7 a5 a3 a2 a6 a4 a10 a9 a1 a0 a8 aN, O7 a7 r7 v7_count v7_holes v7_worms] sz [.ref a11, .int p1, .int p2, .int p3]) (QiK D (fun (r : Int32) (u : Unit) => r.toInt = -1) (fun (u : Unit) => [O11 a11 a7 a5 a3 a2 a6 a4 a10 a9 a1 a0 a8 aN, O7 a7 r7 v7_count v7_holes v7_worms]) [O11 a11 a7 a5 a3 a2 a6 a4 a10 a9 a1 a0 a8 aN, O7 a7 r7 v7_count v7_holes v7_worms] sz) 0 0 (va_A [O11 a11 a7 a5 a3 a2 a6 a4 a10 a9 a1 a0 a8 aN, O7 a7 r7 v7_count v7_holes v7_worms] sz) := by
  refine ofK_i (cc := cX11_side) (maxL := 8) (own := RX11) (by decide) rfl rfl (Nat.le_of_ble_eq_true rfl) ?_
  intro p e s m args below meth c Q A ls hsz hx hb hml hts hown hK hA hAB hP hD hl ret
  have hS : va_S A s.heap s.heap [] := va_S.rf
  have hl : lv_has ls 8 [(0, .ref a11), (1, .int p1), (2, .int p2), (3, .int p3)] := hl
  have w0 := hts (.fieldLink RX11 10 "OlderSkin" "sheets" "LOlderSkin$Sheets;") (List.mem_of_getElem? (i := 1) rfl)
  have w1 := (fun w h => List.mem_cons_of_mem _ (List.mem_append_left _ (List.mem_append_left _ (List.mem_append_right _ h))) : ∀ w ∈ u_ws RX11 TX11 12, w ∈ wsX11_side)
  have l0 : (10 : Int32).toInt = 10 := by decide
  have l1 : (0 : Int32).toInt = 0 := by decide
  have l2 : ((-1) : Int32).toInt = -1 := by decide
  have i1 : 0 ≤ v7_count.toInt ∧ v7_count.toInt ≤ 8 := i1
  refine lv_iload_n hx hb dX11_side_0 rfl (lv_at hl 2 rfl) ?_
  refine lv_bipush (v := 10) hx hb dX11_side_1 (by decide) ?_
  refine lv_idiv hx hb dX11_side_3 (by decide) ?_
  refine lv_topi (fun x1 e2 => ?_)
  have h3 := ci_divL (n := 10) (by decide) (by decide) e2
  refine lv_istore (lv' := [(4, .int x1), (0, .ref a11), (1, .int p1), (2, .int p2), (3, .int p3)]) hx hb dX11_side_4 hl (by decide) rfl (fun ls hl => ?_)
  refine lv_iload_n hx hb dX11_side_6 rfl (lv_at hl 3 rfl) ?_
  refine lv_bipush (v := 10) hx hb dX11_side_7 (by decide) ?_
  refine lv_irem hx hb dX11_side_9 (by decide) ?_
  refine lv_topi (fun x4 e5 => ?_)
  have h6 := ci_remL (n := 10) (by decide) (by decide) e5
  refine lv_istore (lv' := [(5, .int x4), (4, .int x1), (0, .ref a11), (1, .int p1), (2, .int p2), (3, .int p3)]) hx hb dX11_side_10 hl (by decide) rfl (fun ls hl => ?_)
  refine lv_iload_n hx hb dX11_side_12 rfl (lv_at hl 3 rfl) ?_
  refine kcm_i hA hAB hP hD hS [false, false] rfl (fun _ => rfl) (fun hPc hDc => va_runS (As := [.int p1]) (rest := []) ⟨hx, hb, hml, hown, hts⟩ (k_X11_isSlack l D κ β s.heap.size p1) (va_cwS 1 hts gX11_side_X11_isSlack rfl rfl rfl (by decide +kernel) ⟨Nat.le_of_ble_eq_true rfl, Nat.le_of_ble_eq_true rfl⟩) (pk_S hK hS hAB hPc hDc) rfl rfl hl.1 rfl (lv_room (Nat.le_of_ble_eq_true rfl)) dX11_side_13 ⟨Nat.le_of_ble_eq_true rfl, Nat.le_of_ble_eq_true rfl⟩) (fun x7 u8 H locs hw hPD hS => ?_)
  have h9 : (x7.toInt = 1 ∧ 0 ≤ p1.toInt ∧ p1.toInt ≤ 99) ∨ (x7.toInt = 0 ∧ (p1.toInt < 0 ∨ 99 < p1.toInt)) := hw
  obtain ⟨hP, hD⟩ : PD D A [O11 a11 a7 a5 a3 a2 a6 a4 a10 a9 a1 a0 a8 aN, O7 a7 r7 v7_count v7_holes v7_worms] H := hPD
  refine lv_if_eq (tgt := 57) hx hb dX11_side_16 (by decide) (fun c10 => ?_) (fun c10 => ?_)
  · have c10 := ci_eq c10
    refine lv_iconst (v := (-1)) hx hb dX11_side_57 (by decide) ?_
    have hpo : ((-1) : Int32).toInt = -1 := (by omega)
    exact ret _ _ _ _ (-1) () dX11_side_58 hpo hP hD hS
  have c10 := ci_ne c10
  refine lv_aload_n hx hb dX11_side_19 rfl (lv_at hl 2 rfl) ?_
  refine va_get (D := D) (ci := 11) (v := .ref a7) (C := RX11) (T := TX11) (N := 12) hx hb hts w1 hown hK.1 hP 0 rfl rfl 0 (by decide) w0 (fun _ h9 => h9) rfl dX11_side_20 ?_
  refine lv_iload hx hb dX11_side_23 (lv_at hl 1 rfl) ?_
  refine kcm_i hA hAB hP hD hS [false, true] rfl (fun _ => rfl) (fun hPc hDc => va_runV (As := [.int x1]) (rest := []) ⟨hx, hb, hml, hown, hts⟩ (k_X7_isSheet l D κ β a7 r7 v7_count v7_holes v7_worms H.size x1 i1 i2 i3 (by omega) (by omega) (by omega)) (cwV 1 hts gX11_side_X7_isSheet rfl rfl rfl (by decide +kernel) ⟨Nat.le_of_ble_eq_true rfl, Nat.le_of_ble_eq_true rfl⟩) (pk_V hK hS hAB hPc hDc 0 (ci := 7) rfl rfl rfl) rfl rfl hl.1 rfl (lv_room (Nat.le_of_ble_eq_true rfl)) dX11_side_25 ⟨Nat.le_of_ble_eq_true rfl, Nat.le_of_ble_eq_true rfl⟩) (fun x11 u12 H locs hw hPD hS => ?_)
  have h13 : (x11.toInt = 1 ∧ 0 ≤ x1.toInt ∧ x1.toInt < v7_count.toInt) ∨ (x11.toInt = 0 ∧ (x1.toInt < 0 ∨ v7_count.toInt ≤ x1.toInt)) := hw
  obtain ⟨hP, hD⟩ : PD D A [O11 a11 a7 a5 a3 a2 a6 a4 a10 a9 a1 a0 a8 aN, O7 a7 r7 v7_count v7_holes v7_worms] H := hPD
  refine lv_if_eq (tgt := 57) hx hb dX11_side_28 (by decide) (fun c14 => ?_) (fun c14 => ?_)
  · have c14 := ci_eq c14
    refine lv_iconst (v := (-1)) hx hb dX11_side_57 (by decide) ?_
    have hpo : ((-1) : Int32).toInt = -1 := (by omega)
    exact ret _ _ _ _ (-1) () dX11_side_58 hpo hP hD hS
  have c14 := ci_ne c14
  exfalso
  omega
set_option maxHeartbeats 4000000 in
set_option maxRecDepth 100000 in
theorem k_X11_without (l : Launch) (D : va_G) (κ : Nat → ClassId) (β : Nat) (a11 : Nat) (a7 : Nat) (a5 : Nat) (a3 : Nat) (a2 : Nat) (a6 : Nat) (a4 : Nat) (a10 : Nat) (a9 : Nat) (a1 : Nat) (a0 : Nat) (a8 : Nat) (aN : Nat) (r7 : Nat → Nat) (v7_count : Int32) (v7_holes : Int32) (v7_worms : Int32) (sz : Nat) (p1 : Int32) (p2 : Int32) (i1 : Rg 0 8 v7_count) (i2 : Rg 0 40 v7_holes) (i3 : Rg 0 40 v7_worms) (i4 : v7_count.toInt = 0) (i5 : v7_holes.toInt = 0) (i6 : v7_worms.toInt = 0) : Met l yX11_without wsX11_without ({ frames := 2, cells := 0, slots := 0, locals := 43 } : Room) (PcK D κ β [O11 a11 a7 a5 a3 a2 a6 a4 a10 a9 a1 a0 a8 aN, O7 a7 r7 v7_count v7_holes v7_worms] sz [.ref a11, .int p1, .int p2]) (QiK D (fun (r : Int32) (u : Unit) => r.toInt = -1) (fun (u : Unit) => [O11 a11 a7 a5 a3 a2 a6 a4 a10 a9 a1 a0 a8 aN, O7 a7 r7 v7_count v7_holes v7_worms]) [O11 a11 a7 a5 a3 a2 a6 a4 a10 a9 a1 a0 a8 aN, O7 a7 r7 v7_count v7_holes v7_worms] sz) 0 0 (va_A [O11 a11 a7 a5 a3 a2 a6 a4 a10 a9 a1 a0 a8 aN, O7 a7 r7 v7_count v7_holes v7_worms] sz) := by
  refine ofK_i (cc := cX11_without) (maxL := 3) (own := RX11) (by decide) rfl rfl (Nat.le_of_ble_eq_true rfl) ?_
  intro p e s m args below meth c Q A ls hsz hx hb hml hts hown hK hA hAB hP hD hl ret
  have hS : va_S A s.heap s.heap [] := va_S.rf
  have hl : lv_has ls 3 [(0, .ref a11), (1, .int p1), (2, .int p2)] := hl
  have w0 := hts (.fieldLink RX11 10 "OlderSkin" "sheets" "LOlderSkin$Sheets;") (List.mem_of_getElem? (i := 1) rfl)
  have w1 := (fun w h => List.mem_cons_of_mem _ (List.mem_append_left _ (List.mem_append_left _ (List.mem_append_right _ h))) : ∀ w ∈ u_ws RX11 TX11 12, w ∈ wsX11_without)
  have l0 : (0 : Int32).toInt = 0 := by decide
  have l1 : ((-1) : Int32).toInt = -1 := by decide
  have i1 : 0 ≤ v7_count.toInt ∧ v7_count.toInt ≤ 8 := i1
  refine lv_iload_n hx hb dX11_without_0 rfl (lv_at hl 1 rfl) ?_
  refine kcm_i hA hAB hP hD hS [false, false] rfl (fun _ => rfl) (fun hPc hDc => va_runS (As := [.int p1]) (rest := []) ⟨hx, hb, hml, hown, hts⟩ (k_X11_isSlack l D κ β s.heap.size p1) (va_cwS 1 hts gX11_without_X11_isSlack rfl rfl rfl (by decide +kernel) ⟨Nat.le_of_ble_eq_true rfl, Nat.le_of_ble_eq_true rfl⟩) (pk_S hK hS hAB hPc hDc) rfl rfl hl.1 rfl (lv_room (Nat.le_of_ble_eq_true rfl)) dX11_without_1 ⟨Nat.le_of_ble_eq_true rfl, Nat.le_of_ble_eq_true rfl⟩) (fun x1 u2 H locs hw hPD hS => ?_)
  have h3 : (x1.toInt = 1 ∧ 0 ≤ p1.toInt ∧ p1.toInt ≤ 99) ∨ (x1.toInt = 0 ∧ (p1.toInt < 0 ∨ 99 < p1.toInt)) := hw
  obtain ⟨hP, hD⟩ : PD D A [O11 a11 a7 a5 a3 a2 a6 a4 a10 a9 a1 a0 a8 aN, O7 a7 r7 v7_count v7_holes v7_worms] H := hPD
  refine lv_if_eq (tgt := 18) hx hb dX11_without_4 (by decide) (fun c4 => ?_) (fun c4 => ?_)
  · have c4 := ci_eq c4
    refine lv_iconst (v := (-1)) hx hb dX11_without_18 (by decide) ?_
    have hpo : ((-1) : Int32).toInt = -1 := (by omega)
    exact ret _ _ _ _ (-1) () dX11_without_19 hpo hP hD hS
  have c4 := ci_ne c4
  refine lv_aload_n hx hb dX11_without_7 rfl (lv_at hl 0 rfl) ?_
  refine va_get (D := D) (ci := 11) (v := .ref a7) (C := RX11) (T := TX11) (N := 12) hx hb hts w1 hown hK.1 hP 0 rfl rfl 0 (by decide) w0 (fun _ h9 => h9) rfl dX11_without_8 ?_
  refine lv_iload_n hx hb dX11_without_11 rfl (lv_at hl 2 rfl) ?_
  refine kcm_i hA hAB hP hD hS [false, true] rfl (fun _ => rfl) (fun hPc hDc => va_runV (As := [.int p2]) (rest := []) ⟨hx, hb, hml, hown, hts⟩ (k_X7_isSheet l D κ β a7 r7 v7_count v7_holes v7_worms H.size p2 i1 i2 i3 (by omega) (by omega) (by omega)) (cwV 1 hts gX11_without_X7_isSheet rfl rfl rfl (by decide +kernel) ⟨Nat.le_of_ble_eq_true rfl, Nat.le_of_ble_eq_true rfl⟩) (pk_V hK hS hAB hPc hDc 0 (ci := 7) rfl rfl rfl) rfl rfl hl.1 rfl (lv_room (Nat.le_of_ble_eq_true rfl)) dX11_without_12 ⟨Nat.le_of_ble_eq_true rfl, Nat.le_of_ble_eq_true rfl⟩) (fun x5 u6 H locs hw hPD hS => ?_)
  have h7 : (x5.toInt = 1 ∧ 0 ≤ p2.toInt ∧ p2.toInt < v7_count.toInt) ∨ (x5.toInt = 0 ∧ (p2.toInt < 0 ∨ v7_count.toInt ≤ p2.toInt)) := hw
  obtain ⟨hP, hD⟩ : PD D A [O11 a11 a7 a5 a3 a2 a6 a4 a10 a9 a1 a0 a8 aN, O7 a7 r7 v7_count v7_holes v7_worms] H := hPD
  refine lv_if_ne (tgt := 20) hx hb dX11_without_15 (by decide) (fun c8 => ?_) (fun c8 => ?_)
  · have c8 := ci_ne c8
    exfalso
    omega
  have c8 := ci_eq c8
  refine lv_iconst (v := (-1)) hx hb dX11_without_18 (by decide) ?_
  have hpo : ((-1) : Int32).toInt = -1 := (by omega)
  exact ret _ _ _ _ (-1) () dX11_without_19 hpo hP hD hS
set_option maxHeartbeats 4000000 in
set_option maxRecDepth 100000 in
theorem k_X11_line (l : Launch) (D : va_G) (κ : Nat → ClassId) (β : Nat) (a11 : Nat) (a7 : Nat) (a5 : Nat) (a3 : Nat) (a2 : Nat) (a6 : Nat) (a4 : Nat) (a10 : Nat) (a9 : Nat) (a1 : Nat) (a0 : Nat) (a8 : Nat) (aN : Nat) (r7 : Nat → Nat) (v7_count : Int32) (v7_holes : Int32) (v7_worms : Int32) (sz : Nat) (p1 : Int32) (p2 : Int32) (i1 : Rg 0 8 v7_count) (i2 : Rg 0 40 v7_holes) (i3 : Rg 0 40 v7_worms) (i4 : v7_count.toInt = 0) (i5 : v7_holes.toInt = 0) (i6 : v7_worms.toInt = 0) : Met l yX11_line wsX11_line ({ frames := 2, cells := 0, slots := 0, locals := 43 } : Room) (PcK D κ β [O11 a11 a7 a5 a3 a2 a6 a4 a10 a9 a1 a0 a8 aN, O7 a7 r7 v7_count v7_holes v7_worms] sz [.ref a11, .int p1, .int p2]) (QiK D (fun (r : Int32) (u : Unit) => r.toInt = -1) (fun (u : Unit) => [O11 a11 a7 a5 a3 a2 a6 a4 a10 a9 a1 a0 a8 aN, O7 a7 r7 v7_count v7_holes v7_worms]) [O11 a11 a7 a5 a3 a2 a6 a4 a10 a9 a1 a0 a8 aN, O7 a7 r7 v7_count v7_holes v7_worms] sz) 0 0 (va_A [O11 a11 a7 a5 a3 a2 a6 a4 a10 a9 a1 a0 a8 aN, O7 a7 r7 v7_count v7_holes v7_worms] sz) := by
  refine ofK_i (cc := cX11_line) (maxL := 3) (own := RX11) (by decide) rfl rfl (Nat.le_of_ble_eq_true rfl) ?_
  intro p e s m args below meth c Q A ls hsz hx hb hml hts hown hK hA hAB hP hD hl ret
  have hS : va_S A s.heap s.heap [] := va_S.rf
  have hl : lv_has ls 3 [(0, .ref a11), (1, .int p1), (2, .int p2)] := hl
  have w0 := hts (.fieldLink RX11 10 "OlderSkin" "sheets" "LOlderSkin$Sheets;") (List.mem_of_getElem? (i := 1) rfl)
  have w1 := (fun w h => List.mem_cons_of_mem _ (List.mem_append_left _ (List.mem_append_left _ (List.mem_append_right _ h))) : ∀ w ∈ u_ws RX11 TX11 12, w ∈ wsX11_line)
  have l0 : (0 : Int32).toInt = 0 := by decide
  have l1 : ((-1) : Int32).toInt = -1 := by decide
  have i1 : 0 ≤ v7_count.toInt ∧ v7_count.toInt ≤ 8 := i1
  refine lv_aload_n hx hb dX11_line_0 rfl (lv_at hl 0 rfl) ?_
  refine va_get (D := D) (ci := 11) (v := .ref a7) (C := RX11) (T := TX11) (N := 12) hx hb hts w1 hown hK.1 hP 0 rfl rfl 0 (by decide) w0 (fun _ h9 => h9) rfl dX11_line_1 ?_
  refine lv_iload_n hx hb dX11_line_4 rfl (lv_at hl 1 rfl) ?_
  refine kcm_i hA hAB hP hD hS [false, true] rfl (fun _ => rfl) (fun hPc hDc => va_runV (As := [.int p1]) (rest := []) ⟨hx, hb, hml, hown, hts⟩ (k_X7_isSheet l D κ β a7 r7 v7_count v7_holes v7_worms s.heap.size p1 i1 i2 i3 (by omega) (by omega) (by omega)) (cwV 1 hts gX11_line_X7_isSheet rfl rfl rfl (by decide +kernel) ⟨Nat.le_of_ble_eq_true rfl, Nat.le_of_ble_eq_true rfl⟩) (pk_V hK hS hAB hPc hDc 0 (ci := 7) rfl rfl rfl) rfl rfl hl.1 rfl (lv_room (Nat.le_of_ble_eq_true rfl)) dX11_line_5 ⟨Nat.le_of_ble_eq_true rfl, Nat.le_of_ble_eq_true rfl⟩) (fun x1 u2 H locs hw hPD hS => ?_)
  have h3 : (x1.toInt = 1 ∧ 0 ≤ p1.toInt ∧ p1.toInt < v7_count.toInt) ∨ (x1.toInt = 0 ∧ (p1.toInt < 0 ∨ v7_count.toInt ≤ p1.toInt)) := hw
  obtain ⟨hP, hD⟩ : PD D A [O11 a11 a7 a5 a3 a2 a6 a4 a10 a9 a1 a0 a8 aN, O7 a7 r7 v7_count v7_holes v7_worms] H := hPD
  refine lv_if_eq (tgt := 18) hx hb dX11_line_8 (by decide) (fun c4 => ?_) (fun c4 => ?_)
  · have c4 := ci_eq c4
    refine lv_iconst (v := (-1)) hx hb dX11_line_18 (by decide) ?_
    have hpo : ((-1) : Int32).toInt = -1 := (by omega)
    exact ret _ _ _ _ (-1) () dX11_line_19 hpo hP hD hS
  have c4 := ci_ne c4
  exfalso
  omega
set_option maxHeartbeats 4000000 in
set_option maxRecDepth 100000 in
theorem k_X11_mark (l : Launch) (D : va_G) (κ : Nat → ClassId) (β : Nat) (a11 : Nat) (a7 : Nat) (a5 : Nat) (a3 : Nat) (a2 : Nat) (a6 : Nat) (a4 : Nat) (a10 : Nat) (a9 : Nat) (a1 : Nat) (a0 : Nat) (a8 : Nat) (aN : Nat) (r3 : Nat → Nat) (v3_count : Int32) (v3_marks : Int32) (sz : Nat) (p1 : Int32) (p2 : Int32) (i1 : Rg 0 20 v3_count) (i2 : Rg 0 60 v3_marks) (i3 : v3_count.toInt = 0) (i4 : v3_marks.toInt = 0) : Met l yX11_mark wsX11_mark ({ frames := 2, cells := 0, slots := 0, locals := 43 } : Room) (PcK D κ β [O11 a11 a7 a5 a3 a2 a6 a4 a10 a9 a1 a0 a8 aN, O3 a3 r3 v3_count v3_marks] sz [.ref a11, .int p1, .int p2]) (QiK D (fun (r : Int32) (u : Unit) => r.toInt = -1) (fun (u : Unit) => [O11 a11 a7 a5 a3 a2 a6 a4 a10 a9 a1 a0 a8 aN, O3 a3 r3 v3_count v3_marks]) [O11 a11 a7 a5 a3 a2 a6 a4 a10 a9 a1 a0 a8 aN, O3 a3 r3 v3_count v3_marks] sz) 0 0 (va_A [O11 a11 a7 a5 a3 a2 a6 a4 a10 a9 a1 a0 a8 aN, O3 a3 r3 v3_count v3_marks] sz) := by
  refine ofK_i (cc := cX11_mark) (maxL := 5) (own := RX11) (by decide) rfl rfl (Nat.le_of_ble_eq_true rfl) ?_
  intro p e s m args below meth c Q A ls hsz hx hb hml hts hown hK hA hAB hP hD hl ret
  have hS : va_S A s.heap s.heap [] := va_S.rf
  have hl : lv_has ls 5 [(0, .ref a11), (1, .int p1), (2, .int p2)] := hl
  have w0 := hts (.fieldLink RX11 26 "OlderSkin" "lines" "LOlderSkin$Lines;") (List.mem_of_getElem? (i := 1) rfl)
  have w1 := (fun w h => List.mem_cons_of_mem _ (List.mem_append_left _ (List.mem_append_left _ (List.mem_append_right _ h))) : ∀ w ∈ u_ws RX11 TX11 12, w ∈ wsX11_mark)
  have l0 : (100 : Int32).toInt = 100 := by decide
  have l1 : (0 : Int32).toInt = 0 := by decide
  have l2 : ((-1) : Int32).toInt = -1 := by decide
  have i1 : 0 ≤ v3_count.toInt ∧ v3_count.toInt ≤ 20 := i1
  refine lv_iload_n hx hb dX11_mark_0 rfl (lv_at hl 1 rfl) ?_
  refine lv_bipush (v := 100) hx hb dX11_mark_1 (by decide) ?_
  refine lv_idiv hx hb dX11_mark_3 (by decide) ?_
  refine lv_topi (fun x1 e2 => ?_)
  have h3 := ci_divL (n := 100) (by decide) (by decide) e2
  refine lv_istore_n (lv' := [(3, .int x1), (0, .ref a11), (1, .int p1), (2, .int p2)]) hx hb dX11_mark_4 rfl hl (by decide) rfl (fun ls hl => ?_)
  refine lv_iload_n hx hb dX11_mark_5 rfl (lv_at hl 2 rfl) ?_
  refine lv_bipush (v := 100) hx hb dX11_mark_6 (by decide) ?_
  refine lv_irem hx hb dX11_mark_8 (by decide) ?_
  refine lv_topi (fun x4 e5 => ?_)
  have h6 := ci_remL (n := 100) (by decide) (by decide) e5
  refine lv_istore (lv' := [(4, .int x4), (3, .int x1), (0, .ref a11), (1, .int p1), (2, .int p2)]) hx hb dX11_mark_9 hl (by decide) rfl (fun ls hl => ?_)
  refine lv_aload_n hx hb dX11_mark_11 rfl (lv_at hl 2 rfl) ?_
  refine va_get (D := D) (ci := 11) (v := .ref a3) (C := RX11) (T := TX11) (N := 12) hx hb hts w1 hown hK.1 hP 0 rfl rfl 2 (by decide) w0 (fun _ h9 => h9) rfl dX11_mark_12 ?_
  refine lv_iload_n hx hb dX11_mark_15 rfl (lv_at hl 1 rfl) ?_
  refine kcm_i hA hAB hP hD hS [false, true] rfl (fun _ => rfl) (fun hPc hDc => va_runV (As := [.int x1]) (rest := []) ⟨hx, hb, hml, hown, hts⟩ (k_X3_isLine l D κ β a3 r3 v3_count v3_marks s.heap.size x1 i1 i2 (by omega) (by omega)) (cwV 1 hts gX11_mark_X3_isLine rfl rfl rfl (by decide +kernel) ⟨Nat.le_of_ble_eq_true rfl, Nat.le_of_ble_eq_true rfl⟩) (pk_V hK hS hAB hPc hDc 0 (ci := 3) rfl rfl rfl) rfl rfl hl.1 rfl (lv_room (Nat.le_of_ble_eq_true rfl)) dX11_mark_16 ⟨Nat.le_of_ble_eq_true rfl, Nat.le_of_ble_eq_true rfl⟩) (fun x7 u8 H locs hw hPD hS => ?_)
  have h9 : (x7.toInt = 1 ∧ 0 ≤ x1.toInt ∧ x1.toInt < v3_count.toInt) ∨ (x7.toInt = 0 ∧ (x1.toInt < 0 ∨ v3_count.toInt ≤ x1.toInt)) := hw
  obtain ⟨hP, hD⟩ : PD D A [O11 a11 a7 a5 a3 a2 a6 a4 a10 a9 a1 a0 a8 aN, O3 a3 r3 v3_count v3_marks] H := hPD
  refine lv_if_eq (tgt := 41) hx hb dX11_mark_19 (by decide) (fun c10 => ?_) (fun c10 => ?_)
  · have c10 := ci_eq c10
    refine lv_iconst (v := (-1)) hx hb dX11_mark_41 (by decide) ?_
    have hpo : ((-1) : Int32).toInt = -1 := (by omega)
    exact ret _ _ _ _ (-1) () dX11_mark_42 hpo hP hD hS
  have c10 := ci_ne c10
  exfalso
  omega
set_option maxHeartbeats 4000000 in
set_option maxRecDepth 100000 in
theorem k_X11_findInks (l : Launch) (D : va_G) (κ : Nat → ClassId) (β : Nat) (a11 : Nat) (a7 : Nat) (a5 : Nat) (a3 : Nat) (a2 : Nat) (a6 : Nat) (a4 : Nat) (a10 : Nat) (a9 : Nat) (a1 : Nat) (a0 : Nat) (a8 : Nat) (aN : Nat) (r7 : Nat → Nat) (r3 : Nat → Nat) (v7_count : Int32) (v7_holes : Int32) (v7_worms : Int32) (f7_wormOf : Nat → Int32) (v3_count : Int32) (v3_marks : Int32) (f3_inksOver : Nat → Int32) (f3_inksRound : Nat → Int32) (f3_inksAhead : Nat → Int32) (sz : Nat) (p1 : Int32) (i1 : Rg 0 8 v7_count) (i2 : Rg 0 40 v7_holes) (i3 : Rg 0 40 v7_worms) (hf7_wormOf : ∀ j : Nat, 0 ≤ (f7_wormOf j).toInt ∧ (f7_wormOf j).toInt ≤ 39) (i4 : Rg 0 20 v3_count) (i5 : Rg 0 60 v3_marks) (hf3_inksAhead : ∀ j : Nat, (f3_inksAhead j).toInt = 0) (i6 : v7_count.toInt = 0) (i7 : v7_holes.toInt = 0) (i8 : v7_worms.toInt = 0) (i9 : v3_count.toInt = 0) (i10 : v3_marks.toInt = 0) : Met l yX11_findInks wsX11_findInks ({ frames := 2, cells := 0, slots := 0, locals := 48 } : Room) (PcK D κ β [O11 a11 a7 a5 a3 a2 a6 a4 a10 a9 a1 a0 a8 aN, O7 a7 r7 v7_count v7_holes v7_worms, (cI κ (r7 6) 40 f7_wormOf), O3 a3 r3 v3_count v3_marks, (cI κ (r3 7) 40 f3_inksOver), (cI κ (r3 8) 40 f3_inksRound), (cI κ (r3 9) 6 f3_inksAhead)] sz [.ref a11, .int p1]) (QvK D (fun (u : Int32 × (Nat → Int32) × (Nat → Int32) × (Nat → Int32)) => (0 ≤ u.1.toInt ∧ u.1.toInt ≤ 40) ∧ (∀ j : Nat, (u.2.2.2 j).toInt = 0)) (fun (u : Int32 × (Nat → Int32) × (Nat → Int32) × (Nat → Int32)) => [O11 a11 a7 a5 a3 a2 a6 a4 a10 a9 a1 a0 a8 aN, O7 a7 r7 v7_count v7_holes u.1, (cI κ (r7 6) 40 f7_wormOf), O3 a3 r3 v3_count v3_marks, (cI κ (r3 7) 40 u.2.1), (cI κ (r3 8) 40 u.2.2.1), (cI κ (r3 9) 6 u.2.2.2)]) [O11 a11 a7 a5 a3 a2 a6 a4 a10 a9 a1 a0 a8 aN, O7 a7 r7 v7_count v7_holes v7_worms, (cI κ (r7 6) 40 f7_wormOf), O3 a3 r3 v3_count v3_marks, (cI κ (r3 7) 40 f3_inksOver), (cI κ (r3 8) 40 f3_inksRound), (cI κ (r3 9) 6 f3_inksAhead)] sz) 0 0 (va_A [O11 a11 a7 a5 a3 a2 a6 a4 a10 a9 a1 a0 a8 aN, O7 a7 r7 v7_count v7_holes v7_worms, (cI κ (r7 6) 40 f7_wormOf), O3 a3 r3 v3_count v3_marks, (cI κ (r3 7) 40 f3_inksOver), (cI κ (r3 8) 40 f3_inksRound), (cI κ (r3 9) 6 f3_inksAhead)] sz) := by
  refine ofK_v (cc := cX11_findInks) (maxL := 2) (own := RX11) (by decide) rfl rfl (Nat.le_of_ble_eq_true rfl) ?_
  intro p e s m args below meth c Q A ls hsz hx hb hml hts hown hK hA hAB hP hD hl hname ret
  have hS : va_S A s.heap s.heap [] := va_S.rf
  have hl : lv_has ls 2 [(0, .ref a11), (1, .int p1)] := hl
  have w0 := hts (.fieldLink RX11 10 "OlderSkin" "sheets" "LOlderSkin$Sheets;") (List.mem_of_getElem? (i := 1) rfl)
  have w1 := (fun w h => List.mem_cons_of_mem _ (List.mem_append_left _ (List.mem_append_left _ (List.mem_append_right _ h))) : ∀ w ∈ u_ws RX11 TX11 12, w ∈ wsX11_findInks)
  have w2 := hts (.fieldLink RX11 26 "OlderSkin" "lines" "LOlderSkin$Lines;") (List.mem_of_getElem? (i := 2) rfl)
  have w3 := hts (.fieldLink RX11 141 "OlderSkin$Sheets" "wormOf" "[I") (List.mem_of_getElem? (i := 3) rfl)
  have w4 := (fun w h => List.mem_cons_of_mem _ (List.mem_append_left _ (List.mem_append_right _ h)) : ∀ w ∈ u_ws RX7 TX7 9, w ∈ wsX11_findInks)
  have w5 := hts (.fieldLink RX11 131 "OlderSkin$Sheets" "worms" "I") (List.mem_of_getElem? (i := 4) rfl)
  have i3 : 0 ≤ v7_worms.toInt ∧ v7_worms.toInt ≤ 40 := i3
  refine lv_aload_n hx hb dX11_findInks_0 rfl (lv_at hl 0 rfl) ?_
  refine va_get (D := D) (ci := 11) (v := .ref a7) (C := RX11) (T := TX11) (N := 12) hx hb hts w1 hown hK.1 hP 0 rfl rfl 0 (by decide) w0 (fun _ h9 => h9) rfl dX11_findInks_1 ?_
  refine lv_iload_n hx hb dX11_findInks_4 rfl (lv_at hl 1 rfl) ?_
  refine lv_aload_n hx hb dX11_findInks_5 rfl (lv_at hl 0 rfl) ?_
  refine va_get (D := D) (ci := 11) (v := .ref a7) (C := RX11) (T := TX11) (N := 12) hx hb hts w1 hown hK.1 hP 0 rfl rfl 0 (by decide) w0 (fun _ h9 => h9) rfl dX11_findInks_6 ?_
  refine kcm_i hA hAB hP hD hS [false, true, false, false, false, false, false] rfl (fun _ => rfl) (fun hPc hDc => va_runV (As := []) (rest := [.int p1, .ref a7]) ⟨hx, hb, hml, hown, hts⟩ (k_X7_all l D κ β a7 r7 v7_count v7_holes v7_worms s.heap.size i1 i2 i3 (by omega) (by omega) (by omega)) (cwV 0 hts gX11_findInks_X7_all rfl rfl rfl (by decide +kernel) ⟨Nat.le_of_ble_eq_true rfl, Nat.le_of_ble_eq_true rfl⟩) (pk_V hK hS hAB hPc hDc 0 (ci := 7) rfl rfl rfl) rfl rfl hl.1 rfl (lv_room (Nat.le_of_ble_eq_true rfl)) dX11_findInks_9 ⟨Nat.le_of_ble_eq_true rfl, Nat.le_of_ble_eq_true rfl⟩) (fun x1 u2 H locs hw hPD hS => ?_)
  obtain ⟨h3, h4⟩ : (0 ≤ x1.toInt ∧ x1.toInt ≤ 255) ∧ (x1.toInt = 0) := hw
  obtain ⟨hP, hD⟩ : PD D A [O11 a11 a7 a5 a3 a2 a6 a4 a10 a9 a1 a0 a8 aN, O7 a7 r7 v7_count v7_holes v7_worms, (cI κ (r7 6) 40 f7_wormOf), O3 a3 r3 v3_count v3_marks, (cI κ (r3 7) 40 f3_inksOver), (cI κ (r3 8) 40 f3_inksRound), (cI κ (r3 9) 6 f3_inksAhead)] H := hPD
  refine kcm_v hA hAB hP hD hS [false, true, false, false, false, false, false] rfl (fun _ => rfl) (fun hPc hDc => va_runV (As := [.int p1, .int x1]) (rest := []) ⟨hx, hb, hml, hown, hts⟩ (k_X7_findWorms l D κ β a7 r7 v7_count v7_holes v7_worms H.size p1 x1 i1 i2 i3 (by omega) (by omega) (by omega)) (cwV 2 hts gX11_findInks_X7_findWorms rfl rfl rfl (by decide +kernel) ⟨Nat.le_of_ble_eq_true rfl, Nat.le_of_ble_eq_true rfl⟩) (pk_V hK hS hAB hPc hDc 0 (ci := 7) rfl rfl rfl) rfl rfl hl.1 rfl (lv_room (Nat.le_of_ble_eq_true rfl)) dX11_findInks_12 ⟨Nat.le_of_ble_eq_true rfl, Nat.le_of_ble_eq_true rfl⟩) (fun x5 H locs hw hPD hS => ?_)
  obtain ⟨h6, h7⟩ : (0 ≤ x5.toInt ∧ x5.toInt ≤ 40) ∧ (x5.toInt = 0) := hw
  obtain ⟨hP, hD⟩ : PD D A [O11 a11 a7 a5 a3 a2 a6 a4 a10 a9 a1 a0 a8 aN, O7 a7 r7 v7_count v7_holes x5, (cI κ (r7 6) 40 f7_wormOf), O3 a3 r3 v3_count v3_marks, (cI κ (r3 7) 40 f3_inksOver), (cI κ (r3 8) 40 f3_inksRound), (cI κ (r3 9) 6 f3_inksAhead)] H := hPD
  refine lv_aload_n hx hb dX11_findInks_15 rfl (lv_at hl 0 rfl) ?_
  refine va_get (D := D) (ci := 11) (v := .ref a3) (C := RX11) (T := TX11) (N := 12) hx hb hts w1 hown hK.1 hP 0 rfl rfl 2 (by decide) w2 (fun _ h9 => h9) rfl dX11_findInks_16 ?_
  refine lv_aload_n hx hb dX11_findInks_19 rfl (lv_at hl 0 rfl) ?_
  refine va_get (D := D) (ci := 11) (v := .ref a7) (C := RX11) (T := TX11) (N := 12) hx hb hts w1 hown hK.1 hP 0 rfl rfl 0 (by decide) w0 (fun _ h9 => h9) rfl dX11_findInks_20 ?_
  refine va_get (D := D) (ci := 7) (v := .ref (r7 6)) (C := RX7) (T := TX7) (N := 9) hx hb hts w4 hown hK.1 hP 1 rfl rfl 6 (by decide) w3 (fun _ h9 => h9) rfl dX11_findInks_23 ?_
  refine lv_aload_n hx hb dX11_findInks_26 rfl (lv_at hl 0 rfl) ?_
  refine va_get (D := D) (ci := 11) (v := .ref a7) (C := RX11) (T := TX11) (N := 12) hx hb hts w1 hown hK.1 hP 0 rfl rfl 0 (by decide) w0 (fun _ h9 => h9) rfl dX11_findInks_27 ?_
  refine va_get (D := D) (ci := 7) (v := .int x5) (C := RX7) (T := TX7) (N := 9) hx hb hts w4 hown hK.1 hP 1 rfl rfl 8 (by decide) w5 (fun _ h9 => h9) rfl dX11_findInks_30 ?_
  refine kc_v hA hAB hP hD hS (wc := [O3 a3 r3 v3_count v3_marks, (cI κ (r3 7) 40 f3_inksOver), (cI κ (r3 8) 40 f3_inksRound), (cI κ (r3 9) 6 f3_inksAhead), (cI κ (r7 6) 40 f7_wormOf)]) (wr := [O11 a11 a7 a5 a3 a2 a6 a4 a10 a9 a1 a0 a8 aN, O7 a7 r7 v7_count v7_holes x5]) [3, 4, 5, 6, 2] [0, 1] rfl rfl (by decide) (by decide) (by decide) (fun hPc hDc => va_runV (As := [.ref (r7 6), .int x5]) (rest := []) ⟨hx, hb, hml, hown, hts⟩ (k_X3_findInks l D κ β a3 r3 v3_count v3_marks f3_inksOver f3_inksRound f3_inksAhead f7_wormOf H.size (r7 6) x5 i4 i5 hf3_inksAhead hf7_wormOf (by omega) (by omega) (by omega) (by omega)) (cwV 2 hts gX11_findInks_X3_findInks rfl rfl rfl (by decide +kernel) ⟨Nat.le_of_ble_eq_true rfl, Nat.le_of_ble_eq_true rfl⟩) (pk_V hK hS hAB hPc hDc 0 (ci := 3) rfl rfl rfl) rfl rfl hl.1 rfl (lv_room (Nat.le_of_ble_eq_true rfl)) dX11_findInks_33 ⟨Nat.le_of_ble_eq_true rfl, Nat.le_of_ble_eq_true rfl⟩) (fun u11 H locs hw hP hD hS => ?_)
  obtain ⟨g8, g9, g10⟩ := u11
  have h12 : ∀ j : Nat, (g10 j).toInt = 0 := hw
  obtain ⟨hP, hD⟩ : PD D A [O11 a11 a7 a5 a3 a2 a6 a4 a10 a9 a1 a0 a8 aN, O7 a7 r7 v7_count v7_holes x5, O3 a3 r3 v3_count v3_marks, (cI κ (r3 7) 40 g8), (cI κ (r3 8) 40 g9), (cI κ (r3 9) 6 g10), (cI κ (r7 6) 40 f7_wormOf)] H := ⟨hP, hD⟩
  obtain ⟨hP, hD⟩ : PD D A [O11 a11 a7 a5 a3 a2 a6 a4 a10 a9 a1 a0 a8 aN, O7 a7 r7 v7_count v7_holes x5, (cI κ (r7 6) 40 f7_wormOf), O3 a3 r3 v3_count v3_marks, (cI κ (r3 7) 40 g8), (cI κ (r3 8) 40 g9), (cI κ (r3 9) 6 g10)] H := ⟨hP.sub [0, 1, 6, 2, 3, 4, 5] rfl, hD.sub [0, 1, 6, 2, 3, 4, 5] (by decide) rfl⟩
  have hpo : (0 ≤ x5.toInt ∧ x5.toInt ≤ 40) ∧ (∀ j : Nat, (g10 j).toInt = 0) := ⟨h6, h12⟩
  exact ret _ _ _ _ (x5, g8, g9, g10) dX11_findInks_36 hpo hP hD hS
set_option maxHeartbeats 4000000 in
set_option maxRecDepth 100000 in
theorem k_X11_fight (l : Launch) (D : va_G) (κ : Nat → ClassId) (β : Nat) (a11 : Nat) (a7 : Nat) (a5 : Nat) (a3 : Nat) (a2 : Nat) (a6 : Nat) (a4 : Nat) (a10 : Nat) (a9 : Nat) (a1 : Nat) (a0 : Nat) (a8 : Nat) (aN : Nat) (r7 : Nat → Nat) (r3 : Nat → Nat) (v7_count : Int32) (v7_holes : Int32) (v7_worms : Int32) (f7_wormOf : Nat → Int32) (v3_count : Int32) (v3_marks : Int32) (f3_inksOver : Nat → Int32) (f3_inksRound : Nat → Int32) (f3_inksAhead : Nat → Int32) (sz : Nat) (p1 : Int32) (p2 : Int32) (i1 : Rg 0 8 v7_count) (i2 : Rg 0 40 v7_holes) (i3 : Rg 0 40 v7_worms) (hf7_wormOf : ∀ j : Nat, 0 ≤ (f7_wormOf j).toInt ∧ (f7_wormOf j).toInt ≤ 39) (i4 : Rg 0 20 v3_count) (i5 : Rg 0 60 v3_marks) (hf3_inksAhead : ∀ j : Nat, (f3_inksAhead j).toInt = 0) (i6 : v7_count.toInt = 0) (i7 : v7_holes.toInt = 0) (i8 : v7_worms.toInt = 0) (i9 : v3_count.toInt = 0) (i10 : v3_marks.toInt = 0) : Met l yX11_fight wsX11_fight ({ frames := 3, cells := 0, slots := 0, locals := 69 } : Room) (PcK D κ β [O11 a11 a7 a5 a3 a2 a6 a4 a10 a9 a1 a0 a8 aN, O7 a7 r7 v7_count v7_holes v7_worms, (cI κ (r7 6) 40 f7_wormOf), O3 a3 r3 v3_count v3_marks, (cI κ (r3 7) 40 f3_inksOver), (cI κ (r3 8) 40 f3_inksRound), (cI κ (r3 9) 6 f3_inksAhead)] sz [.ref a11, .int p1, .int p2]) (QiK D (fun (r : Int32) (u : Int32 × (Nat → Int32) × (Nat → Int32) × (Nat → Int32)) => (0 ≤ u.1.toInt ∧ u.1.toInt ≤ 40) ∧ (∀ j : Nat, (u.2.2.2 j).toInt = 0) ∧ (((0 ≤ p1.toInt ∧ p1.toInt ≤ 99 ∧ 0 ≤ p2.toInt ∧ p2.toInt ≤ 1) ∧ r.toInt = -2) ∨ (¬ (0 ≤ p1.toInt ∧ p1.toInt ≤ 99 ∧ 0 ≤ p2.toInt ∧ p2.toInt ≤ 1) ∧ r.toInt = -1))) (fun (u : Int32 × (Nat → Int32) × (Nat → Int32) × (Nat → Int32)) => [O11 a11 a7 a5 a3 a2 a6 a4 a10 a9 a1 a0 a8 aN, O7 a7 r7 v7_count v7_holes u.1, (cI κ (r7 6) 40 f7_wormOf), O3 a3 r3 v3_count v3_marks, (cI κ (r3 7) 40 u.2.1), (cI κ (r3 8) 40 u.2.2.1), (cI κ (r3 9) 6 u.2.2.2)]) [O11 a11 a7 a5 a3 a2 a6 a4 a10 a9 a1 a0 a8 aN, O7 a7 r7 v7_count v7_holes v7_worms, (cI κ (r7 6) 40 f7_wormOf), O3 a3 r3 v3_count v3_marks, (cI κ (r3 7) 40 f3_inksOver), (cI κ (r3 8) 40 f3_inksRound), (cI κ (r3 9) 6 f3_inksAhead)] sz) 0 0 (va_A [O11 a11 a7 a5 a3 a2 a6 a4 a10 a9 a1 a0 a8 aN, O7 a7 r7 v7_count v7_holes v7_worms, (cI κ (r7 6) 40 f7_wormOf), O3 a3 r3 v3_count v3_marks, (cI κ (r3 7) 40 f3_inksOver), (cI κ (r3 8) 40 f3_inksRound), (cI κ (r3 9) 6 f3_inksAhead)] sz) := by
  refine ofK_i (cc := cX11_fight) (maxL := 4) (own := RX11) (by decide) rfl rfl (Nat.le_of_ble_eq_true rfl) ?_
  intro p e s m args below meth c Q A ls hsz hx hb hml hts hown hK hA hAB hP hD hl ret
  have hS : va_S A s.heap s.heap [] := va_S.rf
  have hl : lv_has ls 4 [(0, .ref a11), (1, .int p1), (2, .int p2)] := hl
  have w0 := hts (.fieldLink RX11 26 "OlderSkin" "lines" "LOlderSkin$Lines;") (List.mem_of_getElem? (i := 1) rfl)
  have w1 := (fun w h => List.mem_cons_of_mem _ (List.mem_append_left _ (List.mem_append_left _ (List.mem_append_right _ h))) : ∀ w ∈ u_ws RX11 TX11 12, w ∈ wsX11_fight)
  have w2 := hts (.fieldLink RX11 10 "OlderSkin" "sheets" "LOlderSkin$Sheets;") (List.mem_of_getElem? (i := 2) rfl)
  have w3 := hts (.fieldLink RX11 141 "OlderSkin$Sheets" "wormOf" "[I") (List.mem_of_getElem? (i := 3) rfl)
  have w4 := (fun w h => List.mem_cons_of_mem _ (List.mem_append_left _ (List.mem_append_right _ h)) : ∀ w ∈ u_ws RX7 TX7 9, w ∈ wsX11_fight)
  have l0 : (0 : Int32).toInt = 0 := by decide
  have l1 : ((-1) : Int32).toInt = -1 := by decide
  have l2 : ((-2) : Int32).toInt = -2 := by decide
  have i4 : 0 ≤ v3_count.toInt ∧ v3_count.toInt ≤ 20 := i4
  refine lv_iload_n hx hb dX11_fight_0 rfl (lv_at hl 1 rfl) ?_
  refine kcm_i hA hAB hP hD hS [false, false, false, false, false, false, false] rfl (fun _ => rfl) (fun hPc hDc => va_runS (As := [.int p1]) (rest := []) ⟨hx, hb, hml, hown, hts⟩ (k_X11_isSlack l D κ β s.heap.size p1) (va_cwS 1 hts gX11_fight_X11_isSlack rfl rfl rfl (by decide +kernel) ⟨Nat.le_of_ble_eq_true rfl, Nat.le_of_ble_eq_true rfl⟩) (pk_S hK hS hAB hPc hDc) rfl rfl hl.1 rfl (lv_room (Nat.le_of_ble_eq_true rfl)) dX11_fight_1 ⟨Nat.le_of_ble_eq_true rfl, Nat.le_of_ble_eq_true rfl⟩) (fun x1 u2 H locs hw hPD hS => ?_)
  have h3 : (x1.toInt = 1 ∧ 0 ≤ p1.toInt ∧ p1.toInt ≤ 99) ∨ (x1.toInt = 0 ∧ (p1.toInt < 0 ∨ 99 < p1.toInt)) := hw
  obtain ⟨hP, hD⟩ : PD D A [O11 a11 a7 a5 a3 a2 a6 a4 a10 a9 a1 a0 a8 aN, O7 a7 r7 v7_count v7_holes v7_worms, (cI κ (r7 6) 40 f7_wormOf), O3 a3 r3 v3_count v3_marks, (cI κ (r3 7) 40 f3_inksOver), (cI κ (r3 8) 40 f3_inksRound), (cI κ (r3 9) 6 f3_inksAhead)] H := hPD
  refine lv_if_eq (tgt := 14) hx hb dX11_fight_4 (by decide) (fun c4 => ?_) (fun c4 => ?_)
  · have c4 := ci_eq c4
    refine lv_iconst (v := (-1)) hx hb dX11_fight_14 (by decide) ?_
    have hpo : (0 ≤ v7_worms.toInt ∧ v7_worms.toInt ≤ 40) ∧ (∀ j : Nat, (f3_inksAhead j).toInt = 0) ∧ (((0 ≤ p1.toInt ∧ p1.toInt ≤ 99 ∧ 0 ≤ p2.toInt ∧ p2.toInt ≤ 1) ∧ ((-1) : Int32).toInt = -2) ∨ (¬ (0 ≤ p1.toInt ∧ p1.toInt ≤ 99 ∧ 0 ≤ p2.toInt ∧ p2.toInt ≤ 1) ∧ ((-1) : Int32).toInt = -1)) := ⟨i3, hf3_inksAhead, (by omega)⟩
    exact ret _ _ _ _ (-1) (v7_worms, f3_inksOver, f3_inksRound, f3_inksAhead) dX11_fight_15 hpo hP hD hS
  have c4 := ci_ne c4
  refine lv_iload_n hx hb dX11_fight_7 rfl (lv_at hl 2 rfl) ?_
  refine kcm_i hA hAB hP hD hS [false, false, false, false, false, false, false] rfl (fun _ => rfl) (fun hPc hDc => va_runS (As := [.int p2]) (rest := []) ⟨hx, hb, hml, hown, hts⟩ (k_X11_isBit l D κ β H.size p2) (va_cwS 1 hts gX11_fight_X11_isBit rfl rfl rfl (by decide +kernel) ⟨Nat.le_of_ble_eq_true rfl, Nat.le_of_ble_eq_true rfl⟩) (pk_S hK hS hAB hPc hDc) rfl rfl hl.1 rfl (lv_room (Nat.le_of_ble_eq_true rfl)) dX11_fight_8 ⟨Nat.le_of_ble_eq_true rfl, Nat.le_of_ble_eq_true rfl⟩) (fun x5 u6 H locs hw hPD hS => ?_)
  have h7 : (x5.toInt = 1 ∧ 0 ≤ p2.toInt ∧ p2.toInt ≤ 1) ∨ (x5.toInt = 0 ∧ (p2.toInt < 0 ∨ 1 < p2.toInt)) := hw
  obtain ⟨hP, hD⟩ : PD D A [O11 a11 a7 a5 a3 a2 a6 a4 a10 a9 a1 a0 a8 aN, O7 a7 r7 v7_count v7_holes v7_worms, (cI κ (r7 6) 40 f7_wormOf), O3 a3 r3 v3_count v3_marks, (cI κ (r3 7) 40 f3_inksOver), (cI κ (r3 8) 40 f3_inksRound), (cI κ (r3 9) 6 f3_inksAhead)] H := hPD
  refine lv_if_ne (tgt := 16) hx hb dX11_fight_11 (by decide) (fun c8 => ?_) (fun c8 => ?_)
  · have c8 := ci_ne c8
    refine lv_aload_n hx hb dX11_fight_16 rfl (lv_at hl 0 rfl) ?_
    refine lv_iload_n hx hb dX11_fight_17 rfl (lv_at hl 1 rfl) ?_
    refine kcm_v hA hAB hP hD hS [true, true, true, true, true, true, true] rfl (fun _ => rfl) (fun hPc hDc => va_runV (As := [.int p1]) (rest := []) ⟨hx, hb, hml, hown, hts⟩ (k_X11_findInks l D κ β a11 a7 a5 a3 a2 a6 a4 a10 a9 a1 a0 a8 aN r7 r3 v7_count v7_holes v7_worms f7_wormOf v3_count v3_marks f3_inksOver f3_inksRound f3_inksAhead H.size p1 i1 i2 i3 hf7_wormOf i4 i5 hf3_inksAhead (by omega) (by omega) (by omega) (by omega) (by omega)) (cwV 1 hts gX11_fight_X11_findInks rfl rfl rfl (by decide +kernel) ⟨Nat.le_of_ble_eq_true rfl, Nat.le_of_ble_eq_true rfl⟩) (pk_V hK hS hAB hPc hDc 0 (ci := 11) rfl rfl rfl) rfl rfl hl.1 rfl (lv_room (Nat.le_of_ble_eq_true rfl)) dX11_fight_18 ⟨Nat.le_of_ble_eq_true rfl, Nat.le_of_ble_eq_true rfl⟩) (fun u13 H locs hw hPD hS => ?_)
    obtain ⟨x9, g10, g11, g12⟩ := u13
    obtain ⟨h14, h15⟩ : (Rg 0 40 x9) ∧ (∀ j : Nat, (g12 j).toInt = 0) := hw
    obtain ⟨hP, hD⟩ : PD D A [O11 a11 a7 a5 a3 a2 a6 a4 a10 a9 a1 a0 a8 aN, O7 a7 r7 v7_count v7_holes x9, (cI κ (r7 6) 40 f7_wormOf), O3 a3 r3 v3_count v3_marks, (cI κ (r3 7) 40 g10), (cI κ (r3 8) 40 g11), (cI κ (r3 9) 6 g12)] H := hPD
    refine lv_aload_n hx hb dX11_fight_21 rfl (lv_at hl 0 rfl) ?_
    refine va_get (D := D) (ci := 11) (v := .ref a3) (C := RX11) (T := TX11) (N := 12) hx hb hts w1 hown hK.1 hP 0 rfl rfl 2 (by decide) w0 (fun _ h9 => h9) rfl dX11_fight_22 ?_
    refine lv_aload_n hx hb dX11_fight_25 rfl (lv_at hl 0 rfl) ?_
    refine va_get (D := D) (ci := 11) (v := .ref a7) (C := RX11) (T := TX11) (N := 12) hx hb hts w1 hown hK.1 hP 0 rfl rfl 0 (by decide) w2 (fun _ h9 => h9) rfl dX11_fight_26 ?_
    refine va_get (D := D) (ci := 7) (v := .ref (r7 6)) (C := RX7) (T := TX7) (N := 9) hx hb hts w4 hown hK.1 hP 1 rfl rfl 6 (by decide) w3 (fun _ h9 => h9) rfl dX11_fight_29 ?_
    refine kc_i hA hAB hP hD hS (wc := [O3 a3 r3 v3_count v3_marks, (cI κ (r7 6) 40 f7_wormOf)]) (wr := [O11 a11 a7 a5 a3 a2 a6 a4 a10 a9 a1 a0 a8 aN, O7 a7 r7 v7_count v7_holes x9, (cI κ (r3 7) 40 g10), (cI κ (r3 8) 40 g11), (cI κ (r3 9) 6 g12)]) [3, 2] [0, 1, 4, 5, 6] rfl rfl (by decide) (by decide) (by decide) (fun hPc hDc => va_runV (As := [.ref (r7 6)]) (rest := []) ⟨hx, hb, hml, hown, hts⟩ (k_X3_firstFighting l D κ β a3 r3 v3_count v3_marks f7_wormOf H.size (r7 6) i4 i5 hf7_wormOf (by omega) (by omega)) (cwV 1 hts gX11_fight_X3_firstFighting rfl rfl rfl (by decide +kernel) ⟨Nat.le_of_ble_eq_true rfl, Nat.le_of_ble_eq_true rfl⟩) (pk_V hK hS hAB hPc hDc 0 (ci := 3) rfl rfl rfl) rfl rfl hl.1 rfl (lv_room (Nat.le_of_ble_eq_true rfl)) dX11_fight_32 ⟨Nat.le_of_ble_eq_true rfl, Nat.le_of_ble_eq_true rfl⟩) (fun x16 u17 H locs hw hP hD hS => ?_)
    have h18 : -1 ≤ x16.toInt ∧ x16.toInt < v3_count.toInt := hw
    obtain ⟨hP, hD⟩ : PD D A [O11 a11 a7 a5 a3 a2 a6 a4 a10 a9 a1 a0 a8 aN, O7 a7 r7 v7_count v7_holes x9, (cI κ (r3 7) 40 g10), (cI κ (r3 8) 40 g11), (cI κ (r3 9) 6 g12), O3 a3 r3 v3_count v3_marks, (cI κ (r7 6) 40 f7_wormOf)] H := ⟨hP, hD⟩
    refine lv_istore_n (lv' := [(3, .int x16), (0, .ref a11), (1, .int p1), (2, .int p2)]) hx hb dX11_fight_35 rfl hl (by decide) rfl (fun ls hl => ?_)
    refine lv_iload_n hx hb dX11_fight_36 rfl (lv_at hl 0 rfl) ?_
    refine lv_if_ge (tgt := 43) hx hb dX11_fight_37 (by decide) (fun c19 => ?_) (fun c19 => ?_)
    · have c19 := ci_le c19
      refine lv_iload_n hx hb dX11_fight_43 rfl (lv_at hl 3 rfl) ?_
      refine lv_if_ne (tgt := 51) hx hb dX11_fight_44 (by decide) (fun c20 => ?_) (fun c20 => ?_)
      · have c20 := ci_ne c20
        refine lv_aload_n hx hb dX11_fight_51 rfl (lv_at hl 1 rfl) ?_
        refine va_get (D := D) (ci := 11) (v := .ref a3) (C := RX11) (T := TX11) (N := 12) hx hb hts w1 hown hK.1 hP 0 rfl rfl 2 (by decide) w0 (fun _ h9 => h9) rfl dX11_fight_52 ?_
        refine lv_iload_n hx hb dX11_fight_55 rfl (lv_at hl 0 rfl) ?_
        refine lv_aload_n hx hb dX11_fight_56 rfl (lv_at hl 1 rfl) ?_
        refine va_get (D := D) (ci := 11) (v := .ref a7) (C := RX11) (T := TX11) (N := 12) hx hb hts w1 hown hK.1 hP 0 rfl rfl 0 (by decide) w2 (fun _ h9 => h9) rfl dX11_fight_57 ?_
        refine va_get (D := D) (ci := 7) (v := .ref (r7 6)) (C := RX7) (T := TX7) (N := 9) hx hb hts w4 hown hK.1 hP 1 rfl rfl 6 (by decide) w3 (fun _ h9 => h9) rfl dX11_fight_60 ?_
        refine kcm_i hA hAB hP hD hS [false, false, false, false, false, true, true] rfl (fun _ => rfl) (fun hPc hDc => va_runV (As := [.int x16, .ref (r7 6)]) (rest := []) ⟨hx, hb, hml, hown, hts⟩ (k_X3_foughtWorm l D κ β a3 r3 v3_count v3_marks f7_wormOf H.size x16 (r7 6) i4 i5 (by omega)) (cwV 2 hts gX11_fight_X3_foughtWorm rfl rfl rfl (by decide +kernel) ⟨Nat.le_of_ble_eq_true rfl, Nat.le_of_ble_eq_true rfl⟩) (pk_V hK hS hAB hPc hDc 0 (ci := 3) rfl rfl rfl) rfl rfl hl.1 rfl (lv_room (Nat.le_of_ble_eq_true rfl)) dX11_fight_63 ⟨Nat.le_of_ble_eq_true rfl, Nat.le_of_ble_eq_true rfl⟩) (fun x21 u22 H locs hw hPD hS => ?_)
        obtain ⟨hP, hD⟩ : PD D A [O11 a11 a7 a5 a3 a2 a6 a4 a10 a9 a1 a0 a8 aN, O7 a7 r7 v7_count v7_holes x9, (cI κ (r3 7) 40 g10), (cI κ (r3 8) 40 g11), (cI κ (r3 9) 6 g12), O3 a3 r3 v3_count v3_marks, (cI κ (r7 6) 40 f7_wormOf)] H := hPD
        obtain ⟨hP, hD⟩ : PD D A [O11 a11 a7 a5 a3 a2 a6 a4 a10 a9 a1 a0 a8 aN, O7 a7 r7 v7_count v7_holes x9, (cI κ (r7 6) 40 f7_wormOf), O3 a3 r3 v3_count v3_marks, (cI κ (r3 7) 40 g10), (cI κ (r3 8) 40 g11), (cI κ (r3 9) 6 g12)] H := ⟨hP.sub [0, 1, 6, 5, 2, 3, 4] rfl, hD.sub [0, 1, 6, 5, 2, 3, 4] (by decide) rfl⟩
        have hpo : (0 ≤ x9.toInt ∧ x9.toInt ≤ 40) ∧ (∀ j : Nat, (g12 j).toInt = 0) ∧ (((0 ≤ p1.toInt ∧ p1.toInt ≤ 99 ∧ 0 ≤ p2.toInt ∧ p2.toInt ≤ 1) ∧ x21.toInt = -2) ∨ (¬ (0 ≤ p1.toInt ∧ p1.toInt ≤ 99 ∧ 0 ≤ p2.toInt ∧ p2.toInt ≤ 1) ∧ x21.toInt = -1)) := ⟨h14, h15, (by omega)⟩
        exact ret _ _ _ _ x21 (x9, g10, g11, g12) dX11_fight_66 hpo hP hD hS
      have c20 := ci_eq c20
      refine lv_iload_n hx hb dX11_fight_47 rfl (lv_at hl 0 rfl) ?_
      refine lv_goto (tgt := 66) hx hb dX11_fight_48 (by decide) ?_
      obtain ⟨hP, hD⟩ : PD D A [O11 a11 a7 a5 a3 a2 a6 a4 a10 a9 a1 a0 a8 aN, O7 a7 r7 v7_count v7_holes x9, (cI κ (r7 6) 40 f7_wormOf), O3 a3 r3 v3_count v3_marks, (cI κ (r3 7) 40 g10), (cI κ (r3 8) 40 g11), (cI κ (r3 9) 6 g12)] H := ⟨hP.sub [0, 1, 6, 5, 2, 3, 4] rfl, hD.sub [0, 1, 6, 5, 2, 3, 4] (by decide) rfl⟩
      have hpo : (0 ≤ x9.toInt ∧ x9.toInt ≤ 40) ∧ (∀ j : Nat, (g12 j).toInt = 0) ∧ (((0 ≤ p1.toInt ∧ p1.toInt ≤ 99 ∧ 0 ≤ p2.toInt ∧ p2.toInt ≤ 1) ∧ x16.toInt = -2) ∨ (¬ (0 ≤ p1.toInt ∧ p1.toInt ≤ 99 ∧ 0 ≤ p2.toInt ∧ p2.toInt ≤ 1) ∧ x16.toInt = -1)) := ⟨h14, h15, (by omega)⟩
      exact ret _ _ _ _ x16 (x9, g10, g11, g12) dX11_fight_66 hpo hP hD hS
    have c19 := ci_nle c19
    refine lv_bipush (v := (-2)) hx hb dX11_fight_40 (by decide) ?_
    obtain ⟨hP, hD⟩ : PD D A [O11 a11 a7 a5 a3 a2 a6 a4 a10 a9 a1 a0 a8 aN, O7 a7 r7 v7_count v7_holes x9, (cI κ (r7 6) 40 f7_wormOf), O3 a3 r3 v3_count v3_marks, (cI κ (r3 7) 40 g10), (cI κ (r3 8) 40 g11), (cI κ (r3 9) 6 g12)] H := ⟨hP.sub [0, 1, 6, 5, 2, 3, 4] rfl, hD.sub [0, 1, 6, 5, 2, 3, 4] (by decide) rfl⟩
    have hpo : (0 ≤ x9.toInt ∧ x9.toInt ≤ 40) ∧ (∀ j : Nat, (g12 j).toInt = 0) ∧ (((0 ≤ p1.toInt ∧ p1.toInt ≤ 99 ∧ 0 ≤ p2.toInt ∧ p2.toInt ≤ 1) ∧ ((-2) : Int32).toInt = -2) ∨ (¬ (0 ≤ p1.toInt ∧ p1.toInt ≤ 99 ∧ 0 ≤ p2.toInt ∧ p2.toInt ≤ 1) ∧ ((-2) : Int32).toInt = -1)) := ⟨h14, h15, (by omega)⟩
    exact ret _ _ _ _ (-2) (x9, g10, g11, g12) dX11_fight_42 hpo hP hD hS
  have c8 := ci_eq c8
  refine lv_iconst (v := (-1)) hx hb dX11_fight_14 (by decide) ?_
  have hpo : (0 ≤ v7_worms.toInt ∧ v7_worms.toInt ≤ 40) ∧ (∀ j : Nat, (f3_inksAhead j).toInt = 0) ∧ (((0 ≤ p1.toInt ∧ p1.toInt ≤ 99 ∧ 0 ≤ p2.toInt ∧ p2.toInt ≤ 1) ∧ ((-1) : Int32).toInt = -2) ∨ (¬ (0 ≤ p1.toInt ∧ p1.toInt ≤ 99 ∧ 0 ≤ p2.toInt ∧ p2.toInt ≤ 1) ∧ ((-1) : Int32).toInt = -1)) := ⟨i3, hf3_inksAhead, (by omega)⟩
  exact ret _ _ _ _ (-1) (v7_worms, f3_inksOver, f3_inksRound, f3_inksAhead) dX11_fight_15 hpo hP hD hS
set_option maxHeartbeats 4000000 in
set_option maxRecDepth 100000 in
theorem k_X11_inks (l : Launch) (D : va_G) (κ : Nat → ClassId) (β : Nat) (a11 : Nat) (a7 : Nat) (a5 : Nat) (a3 : Nat) (a2 : Nat) (a6 : Nat) (a4 : Nat) (a10 : Nat) (a9 : Nat) (a1 : Nat) (a0 : Nat) (a8 : Nat) (aN : Nat) (r7 : Nat → Nat) (r3 : Nat → Nat) (v7_count : Int32) (v7_holes : Int32) (v7_worms : Int32) (f7_wormOf : Nat → Int32) (v3_count : Int32) (v3_marks : Int32) (f3_inksOver : Nat → Int32) (f3_inksRound : Nat → Int32) (f3_inksAhead : Nat → Int32) (sz : Nat) (p1 : Int32) (p2 : Int32) (i1 : Rg 0 8 v7_count) (i2 : Rg 0 40 v7_holes) (i3 : Rg 0 40 v7_worms) (hf7_wormOf : ∀ j : Nat, 0 ≤ (f7_wormOf j).toInt ∧ (f7_wormOf j).toInt ≤ 39) (i4 : Rg 0 20 v3_count) (i5 : Rg 0 60 v3_marks) (hf3_inksAhead : ∀ j : Nat, (f3_inksAhead j).toInt = 0) (i6 : v7_count.toInt = 0) (i7 : v7_holes.toInt = 0) (i8 : v7_worms.toInt = 0) (i9 : v3_count.toInt = 0) (i10 : v3_marks.toInt = 0) : Met l yX11_inks wsX11_inks ({ frames := 3, cells := 0, slots := 0, locals := 69 } : Room) (PcK D κ β [O11 a11 a7 a5 a3 a2 a6 a4 a10 a9 a1 a0 a8 aN, O7 a7 r7 v7_count v7_holes v7_worms, (cI κ (r7 6) 40 f7_wormOf), O3 a3 r3 v3_count v3_marks, (cI κ (r3 7) 40 f3_inksOver), (cI κ (r3 8) 40 f3_inksRound), (cI κ (r3 9) 6 f3_inksAhead)] sz [.ref a11, .int p1, .int p2]) (QiK D (fun (r : Int32) (u : Int32 × (Nat → Int32) × (Nat → Int32) × (Nat → Int32)) => (0 ≤ u.1.toInt ∧ u.1.toInt ≤ 40) ∧ (∀ j : Nat, (u.2.2.2 j).toInt = 0) ∧ ((¬ (0 ≤ p1.toInt ∧ p1.toInt ≤ 99) ∧ r.toInt = -1) ∨ ((0 ≤ p1.toInt ∧ p1.toInt ≤ 99) ∧ (p2.toInt = -1 ∨ p2.toInt = -2) ∧ r.toInt = -2) ∨ ((0 ≤ p1.toInt ∧ p1.toInt ≤ 99) ∧ (0 ≤ p2.toInt ∧ p2.toInt / 10 ≤ 5 ∧ p2.toInt % 10 ≤ 5 ∧ p2.toInt / 10 ≠ p2.toInt % 10) ∧ r.toInt = 0) ∨ ((0 ≤ p1.toInt ∧ p1.toInt ≤ 99) ∧ p2.toInt ≠ -1 ∧ p2.toInt ≠ -2 ∧ ¬ (0 ≤ p2.toInt ∧ p2.toInt / 10 ≤ 5 ∧ p2.toInt % 10 ≤ 5 ∧ p2.toInt / 10 ≠ p2.toInt % 10) ∧ r.toInt = -1))) (fun (u : Int32 × (Nat → Int32) × (Nat → Int32) × (Nat → Int32)) => [O11 a11 a7 a5 a3 a2 a6 a4 a10 a9 a1 a0 a8 aN, O7 a7 r7 v7_count v7_holes u.1, (cI κ (r7 6) 40 f7_wormOf), O3 a3 r3 v3_count v3_marks, (cI κ (r3 7) 40 u.2.1), (cI κ (r3 8) 40 u.2.2.1), (cI κ (r3 9) 6 u.2.2.2)]) [O11 a11 a7 a5 a3 a2 a6 a4 a10 a9 a1 a0 a8 aN, O7 a7 r7 v7_count v7_holes v7_worms, (cI κ (r7 6) 40 f7_wormOf), O3 a3 r3 v3_count v3_marks, (cI κ (r3 7) 40 f3_inksOver), (cI κ (r3 8) 40 f3_inksRound), (cI κ (r3 9) 6 f3_inksAhead)] sz) 0 0 (va_A [O11 a11 a7 a5 a3 a2 a6 a4 a10 a9 a1 a0 a8 aN, O7 a7 r7 v7_count v7_holes v7_worms, (cI κ (r7 6) 40 f7_wormOf), O3 a3 r3 v3_count v3_marks, (cI κ (r3 7) 40 f3_inksOver), (cI κ (r3 8) 40 f3_inksRound), (cI κ (r3 9) 6 f3_inksAhead)] sz) := by
  refine ofK_i (cc := cX11_inks) (maxL := 5) (own := RX11) (by decide) rfl rfl (Nat.le_of_ble_eq_true rfl) ?_
  intro p e s m args below meth c Q A ls hsz hx hb hml hts hown hK hA hAB hP hD hl ret
  have hS : va_S A s.heap s.heap [] := va_S.rf
  have hl : lv_has ls 5 [(0, .ref a11), (1, .int p1), (2, .int p2)] := hl
  have w0 := hts (.fieldLink RX11 26 "OlderSkin" "lines" "LOlderSkin$Lines;") (List.mem_of_getElem? (i := 1) rfl)
  have w1 := (fun w h => List.mem_cons_of_mem _ (List.mem_append_left _ (List.mem_append_left _ (List.mem_append_right _ h))) : ∀ w ∈ u_ws RX11 TX11 12, w ∈ wsX11_inks)
  have l0 : (0 : Int32).toInt = 0 := by decide
  have l1 : ((-1) : Int32).toInt = -1 := by decide
  have l2 : ((-2) : Int32).toInt = -2 := by decide
  have l3 : (10 : Int32).toInt = 10 := by decide
  refine lv_iload_n hx hb dX11_inks_0 rfl (lv_at hl 1 rfl) ?_
  refine kcm_i hA hAB hP hD hS [false, false, false, false, false, false, false] rfl (fun _ => rfl) (fun hPc hDc => va_runS (As := [.int p1]) (rest := []) ⟨hx, hb, hml, hown, hts⟩ (k_X11_isSlack l D κ β s.heap.size p1) (va_cwS 1 hts gX11_inks_X11_isSlack rfl rfl rfl (by decide +kernel) ⟨Nat.le_of_ble_eq_true rfl, Nat.le_of_ble_eq_true rfl⟩) (pk_S hK hS hAB hPc hDc) rfl rfl hl.1 rfl (lv_room (Nat.le_of_ble_eq_true rfl)) dX11_inks_1 ⟨Nat.le_of_ble_eq_true rfl, Nat.le_of_ble_eq_true rfl⟩) (fun x1 u2 H locs hw hPD hS => ?_)
  have h3 : (x1.toInt = 1 ∧ 0 ≤ p1.toInt ∧ p1.toInt ≤ 99) ∨ (x1.toInt = 0 ∧ (p1.toInt < 0 ∨ 99 < p1.toInt)) := hw
  obtain ⟨hP, hD⟩ : PD D A [O11 a11 a7 a5 a3 a2 a6 a4 a10 a9 a1 a0 a8 aN, O7 a7 r7 v7_count v7_holes v7_worms, (cI κ (r7 6) 40 f7_wormOf), O3 a3 r3 v3_count v3_marks, (cI κ (r3 7) 40 f3_inksOver), (cI κ (r3 8) 40 f3_inksRound), (cI κ (r3 9) 6 f3_inksAhead)] H := hPD
  refine lv_if_ne (tgt := 9) hx hb dX11_inks_4 (by decide) (fun c4 => ?_) (fun c4 => ?_)
  · have c4 := ci_ne c4
    refine lv_aload_n hx hb dX11_inks_9 rfl (lv_at hl 0 rfl) ?_
    refine lv_iload_n hx hb dX11_inks_10 rfl (lv_at hl 1 rfl) ?_
    refine kcm_v hA hAB hP hD hS [true, true, true, true, true, true, true] rfl (fun _ => rfl) (fun hPc hDc => va_runV (As := [.int p1]) (rest := []) ⟨hx, hb, hml, hown, hts⟩ (k_X11_findInks l D κ β a11 a7 a5 a3 a2 a6 a4 a10 a9 a1 a0 a8 aN r7 r3 v7_count v7_holes v7_worms f7_wormOf v3_count v3_marks f3_inksOver f3_inksRound f3_inksAhead H.size p1 i1 i2 i3 hf7_wormOf i4 i5 hf3_inksAhead (by omega) (by omega) (by omega) (by omega) (by omega)) (cwV 1 hts gX11_inks_X11_findInks rfl rfl rfl (by decide +kernel) ⟨Nat.le_of_ble_eq_true rfl, Nat.le_of_ble_eq_true rfl⟩) (pk_V hK hS hAB hPc hDc 0 (ci := 11) rfl rfl rfl) rfl rfl hl.1 rfl (lv_room (Nat.le_of_ble_eq_true rfl)) dX11_inks_11 ⟨Nat.le_of_ble_eq_true rfl, Nat.le_of_ble_eq_true rfl⟩) (fun u9 H locs hw hPD hS => ?_)
    obtain ⟨x5, g6, g7, g8⟩ := u9
    obtain ⟨h10, h11⟩ : (Rg 0 40 x5) ∧ (∀ j : Nat, (g8 j).toInt = 0) := hw
    obtain ⟨hP, hD⟩ : PD D A [O11 a11 a7 a5 a3 a2 a6 a4 a10 a9 a1 a0 a8 aN, O7 a7 r7 v7_count v7_holes x5, (cI κ (r7 6) 40 f7_wormOf), O3 a3 r3 v3_count v3_marks, (cI κ (r3 7) 40 g6), (cI κ (r3 8) 40 g7), (cI κ (r3 9) 6 g8)] H := hPD
    refine lv_iload_n hx hb dX11_inks_14 rfl (lv_at hl 2 rfl) ?_
    refine lv_iconst (v := (-1)) hx hb dX11_inks_15 (by decide) ?_
    refine lv_icmp_ne (tgt := 27) hx hb dX11_inks_16 (by decide) (fun c12 => ?_) (fun c12 => ?_)
    · have c12 := ci_ne c12
      refine lv_iload_n hx hb dX11_inks_27 rfl (lv_at hl 2 rfl) ?_
      refine lv_bipush (v := (-2)) hx hb dX11_inks_28 (by decide) ?_
      refine lv_icmp_ne (tgt := 41) hx hb dX11_inks_30 (by decide) (fun c13 => ?_) (fun c13 => ?_)
      · have c13 := ci_ne c13
        refine lv_iload_n hx hb dX11_inks_41 rfl (lv_at hl 2 rfl) ?_
        refine lv_bipush (v := 10) hx hb dX11_inks_42 (by decide) ?_
        refine lv_idiv hx hb dX11_inks_44 (by decide) ?_
        refine lv_topi (fun x14 e15 => ?_)
        have h16 := ci_divL (n := 10) (by decide) (by decide) e15
        have hv0 := fr_div (n := 10) (by decide) (by decide) e15
        refine lv_istore_n (lv' := [(3, .int x14), (0, .ref a11), (1, .int p1), (2, .int p2)]) hx hb dX11_inks_45 rfl hl (by decide) rfl (fun ls hl => ?_)
        refine lv_iload_n hx hb dX11_inks_46 rfl (lv_at hl 3 rfl) ?_
        refine lv_bipush (v := 10) hx hb dX11_inks_47 (by decide) ?_
        refine lv_irem hx hb dX11_inks_49 (by decide) ?_
        refine lv_topi (fun x17 e18 => ?_)
        have h19 := ci_remL (n := 10) (by decide) (by decide) e18
        have hv1 := fr_rem (n := 10) (by decide) (by decide) e18
        refine lv_istore (lv' := [(4, .int x17), (3, .int x14), (0, .ref a11), (1, .int p1), (2, .int p2)]) hx hb dX11_inks_50 hl (by decide) rfl (fun ls hl => ?_)
        refine lv_iload_n hx hb dX11_inks_52 rfl (lv_at hl 1 rfl) ?_
        refine kcm_i hA hAB hP hD hS [false, false, false, false, false, false, false] rfl (fun _ => rfl) (fun hPc hDc => va_runS (As := [.int x14]) (rest := []) ⟨hx, hb, hml, hown, hts⟩ (k_X11_isInk l D κ β H.size x14) (va_cwS 1 hts gX11_inks_X11_isInk rfl rfl rfl (by decide +kernel) ⟨Nat.le_of_ble_eq_true rfl, Nat.le_of_ble_eq_true rfl⟩) (pk_S hK hS hAB hPc hDc) rfl rfl hl.1 rfl (lv_room (Nat.le_of_ble_eq_true rfl)) dX11_inks_53 ⟨Nat.le_of_ble_eq_true rfl, Nat.le_of_ble_eq_true rfl⟩) (fun x20 u21 H locs hw hPD hS => ?_)
        have h22 : (x20.toInt = 1 ∧ 0 ≤ x14.toInt ∧ x14.toInt ≤ 5) ∨ (x20.toInt = 0 ∧ (x14.toInt < 0 ∨ 5 < x14.toInt)) := hw
        obtain ⟨hP, hD⟩ : PD D A [O11 a11 a7 a5 a3 a2 a6 a4 a10 a9 a1 a0 a8 aN, O7 a7 r7 v7_count v7_holes x5, (cI κ (r7 6) 40 f7_wormOf), O3 a3 r3 v3_count v3_marks, (cI κ (r3 7) 40 g6), (cI κ (r3 8) 40 g7), (cI κ (r3 9) 6 g8)] H := hPD
        refine lv_if_eq (tgt := 73) hx hb dX11_inks_56 (by decide) (fun c23 => ?_) (fun c23 => ?_)
        · have c23 := ci_eq c23
          refine lv_iconst (v := (-1)) hx hb dX11_inks_73 (by decide) ?_
          have hpo : (0 ≤ x5.toInt ∧ x5.toInt ≤ 40) ∧ (∀ j : Nat, (g8 j).toInt = 0) ∧ ((¬ (0 ≤ p1.toInt ∧ p1.toInt ≤ 99) ∧ ((-1) : Int32).toInt = -1) ∨ ((0 ≤ p1.toInt ∧ p1.toInt ≤ 99) ∧ (p2.toInt = -1 ∨ p2.toInt = -2) ∧ ((-1) : Int32).toInt = -2) ∨ ((0 ≤ p1.toInt ∧ p1.toInt ≤ 99) ∧ (0 ≤ p2.toInt ∧ p2.toInt / 10 ≤ 5 ∧ p2.toInt % 10 ≤ 5 ∧ p2.toInt / 10 ≠ p2.toInt % 10) ∧ ((-1) : Int32).toInt = 0) ∨ ((0 ≤ p1.toInt ∧ p1.toInt ≤ 99) ∧ p2.toInt ≠ -1 ∧ p2.toInt ≠ -2 ∧ ¬ (0 ≤ p2.toInt ∧ p2.toInt / 10 ≤ 5 ∧ p2.toInt % 10 ≤ 5 ∧ p2.toInt / 10 ≠ p2.toInt % 10) ∧ ((-1) : Int32).toInt = -1)) := ⟨h10, h11, (by omega)⟩
          exact ret _ _ _ _ (-1) (x5, g6, g7, g8) dX11_inks_74 hpo hP hD hS
        have c23 := ci_ne c23
        refine lv_iload hx hb dX11_inks_59 (lv_at hl 0 rfl) ?_
        refine kcm_i hA hAB hP hD hS [false, false, false, false, false, false, false] rfl (fun _ => rfl) (fun hPc hDc => va_runS (As := [.int x17]) (rest := []) ⟨hx, hb, hml, hown, hts⟩ (k_X11_isInk l D κ β H.size x17) (va_cwS 1 hts gX11_inks_X11_isInk rfl rfl rfl (by decide +kernel) ⟨Nat.le_of_ble_eq_true rfl, Nat.le_of_ble_eq_true rfl⟩) (pk_S hK hS hAB hPc hDc) rfl rfl hl.1 rfl (lv_room (Nat.le_of_ble_eq_true rfl)) dX11_inks_61 ⟨Nat.le_of_ble_eq_true rfl, Nat.le_of_ble_eq_true rfl⟩) (fun x24 u25 H locs hw hPD hS => ?_)
        have h26 : (x24.toInt = 1 ∧ 0 ≤ x17.toInt ∧ x17.toInt ≤ 5) ∨ (x24.toInt = 0 ∧ (x17.toInt < 0 ∨ 5 < x17.toInt)) := hw
        obtain ⟨hP, hD⟩ : PD D A [O11 a11 a7 a5 a3 a2 a6 a4 a10 a9 a1 a0 a8 aN, O7 a7 r7 v7_count v7_holes x5, (cI κ (r7 6) 40 f7_wormOf), O3 a3 r3 v3_count v3_marks, (cI κ (r3 7) 40 g6), (cI κ (r3 8) 40 g7), (cI κ (r3 9) 6 g8)] H := hPD
        refine lv_if_eq (tgt := 73) hx hb dX11_inks_64 (by decide) (fun c27 => ?_) (fun c27 => ?_)
        · have c27 := ci_eq c27
          refine lv_iconst (v := (-1)) hx hb dX11_inks_73 (by decide) ?_
          have hpo : (0 ≤ x5.toInt ∧ x5.toInt ≤ 40) ∧ (∀ j : Nat, (g8 j).toInt = 0) ∧ ((¬ (0 ≤ p1.toInt ∧ p1.toInt ≤ 99) ∧ ((-1) : Int32).toInt = -1) ∨ ((0 ≤ p1.toInt ∧ p1.toInt ≤ 99) ∧ (p2.toInt = -1 ∨ p2.toInt = -2) ∧ ((-1) : Int32).toInt = -2) ∨ ((0 ≤ p1.toInt ∧ p1.toInt ≤ 99) ∧ (0 ≤ p2.toInt ∧ p2.toInt / 10 ≤ 5 ∧ p2.toInt % 10 ≤ 5 ∧ p2.toInt / 10 ≠ p2.toInt % 10) ∧ ((-1) : Int32).toInt = 0) ∨ ((0 ≤ p1.toInt ∧ p1.toInt ≤ 99) ∧ p2.toInt ≠ -1 ∧ p2.toInt ≠ -2 ∧ ¬ (0 ≤ p2.toInt ∧ p2.toInt / 10 ≤ 5 ∧ p2.toInt % 10 ≤ 5 ∧ p2.toInt / 10 ≠ p2.toInt % 10) ∧ ((-1) : Int32).toInt = -1)) := ⟨h10, h11, (by omega)⟩
          exact ret _ _ _ _ (-1) (x5, g6, g7, g8) dX11_inks_74 hpo hP hD hS
        have c27 := ci_ne c27
        refine lv_iload_n hx hb dX11_inks_67 rfl (lv_at hl 1 rfl) ?_
        refine lv_iload hx hb dX11_inks_68 (lv_at hl 0 rfl) ?_
        refine lv_icmp_ne (tgt := 75) hx hb dX11_inks_70 (by decide) (fun c28 => ?_) (fun c28 => ?_)
        · have c28 := ci_ne c28
          refine lv_aload_n hx hb dX11_inks_75 rfl (lv_at hl 2 rfl) ?_
          refine va_get (D := D) (ci := 11) (v := .ref a3) (C := RX11) (T := TX11) (N := 12) hx hb hts w1 hown hK.1 hP 0 rfl rfl 2 (by decide) w0 (fun _ h9 => h9) rfl dX11_inks_76 ?_
          refine lv_iload_n hx hb dX11_inks_79 rfl (lv_at hl 1 rfl) ?_
          refine lv_iload hx hb dX11_inks_80 (lv_at hl 0 rfl) ?_
          refine kcm_i hA hAB hP hD hS [false, false, false, true, false, false, true] rfl (fun _ => rfl) (fun hPc hDc => va_runV (As := [.int x14, .int x17]) (rest := []) ⟨hx, hb, hml, hown, hts⟩ (k_X3_cameAhead l D κ β a3 r3 v3_count v3_marks g8 H.size x14 x17 i4 i5 h11 (by omega) (by omega) (by omega)) (cwV 2 hts gX11_inks_X3_cameAhead rfl rfl rfl (by decide +kernel) ⟨Nat.le_of_ble_eq_true rfl, Nat.le_of_ble_eq_true rfl⟩) (pk_V hK hS hAB hPc hDc 0 (ci := 3) rfl rfl rfl) rfl rfl hl.1 rfl (lv_room (Nat.le_of_ble_eq_true rfl)) dX11_inks_82 ⟨Nat.le_of_ble_eq_true rfl, Nat.le_of_ble_eq_true rfl⟩) (fun x29 u30 H locs hw hPD hS => ?_)
          have h31 : x29.toInt = 0 := hw
          obtain ⟨hP, hD⟩ : PD D A [O11 a11 a7 a5 a3 a2 a6 a4 a10 a9 a1 a0 a8 aN, O7 a7 r7 v7_count v7_holes x5, (cI κ (r7 6) 40 f7_wormOf), O3 a3 r3 v3_count v3_marks, (cI κ (r3 7) 40 g6), (cI κ (r3 8) 40 g7), (cI κ (r3 9) 6 g8)] H := hPD
          refine kcm_i hA hAB hP hD hS [false, false, false, false, false, false, false] rfl (fun _ => rfl) (fun hPc hDc => va_runS (As := [.int x29]) (rest := []) ⟨hx, hb, hml, hown, hts⟩ (k_X11_asBit l D κ β H.size x29) (va_cwS 1 hts gX11_inks_X11_asBit rfl rfl rfl (by decide +kernel) ⟨Nat.le_of_ble_eq_true rfl, Nat.le_of_ble_eq_true rfl⟩) (pk_S hK hS hAB hPc hDc) rfl rfl hl.1 rfl (lv_room (Nat.le_of_ble_eq_true rfl)) dX11_inks_85 ⟨Nat.le_of_ble_eq_true rfl, Nat.le_of_ble_eq_true rfl⟩) (fun x32 u33 H locs hw hPD hS => ?_)
          have h34 : (x32.toInt = 1 ∧ x29.toInt ≠ 0) ∨ (x32.toInt = 0 ∧ x29.toInt = 0) := hw
          obtain ⟨hP, hD⟩ : PD D A [O11 a11 a7 a5 a3 a2 a6 a4 a10 a9 a1 a0 a8 aN, O7 a7 r7 v7_count v7_holes x5, (cI κ (r7 6) 40 f7_wormOf), O3 a3 r3 v3_count v3_marks, (cI κ (r3 7) 40 g6), (cI κ (r3 8) 40 g7), (cI κ (r3 9) 6 g8)] H := hPD
          have hpo : (0 ≤ x5.toInt ∧ x5.toInt ≤ 40) ∧ (∀ j : Nat, (g8 j).toInt = 0) ∧ ((¬ (0 ≤ p1.toInt ∧ p1.toInt ≤ 99) ∧ x32.toInt = -1) ∨ ((0 ≤ p1.toInt ∧ p1.toInt ≤ 99) ∧ (p2.toInt = -1 ∨ p2.toInt = -2) ∧ x32.toInt = -2) ∨ ((0 ≤ p1.toInt ∧ p1.toInt ≤ 99) ∧ (0 ≤ p2.toInt ∧ p2.toInt / 10 ≤ 5 ∧ p2.toInt % 10 ≤ 5 ∧ p2.toInt / 10 ≠ p2.toInt % 10) ∧ x32.toInt = 0) ∨ ((0 ≤ p1.toInt ∧ p1.toInt ≤ 99) ∧ p2.toInt ≠ -1 ∧ p2.toInt ≠ -2 ∧ ¬ (0 ≤ p2.toInt ∧ p2.toInt / 10 ≤ 5 ∧ p2.toInt % 10 ≤ 5 ∧ p2.toInt / 10 ≠ p2.toInt % 10) ∧ x32.toInt = -1)) := ⟨h10, h11, (by omega)⟩
          exact ret _ _ _ _ x32 (x5, g6, g7, g8) dX11_inks_88 hpo hP hD hS
        have c28 := ci_eq c28
        refine lv_iconst (v := (-1)) hx hb dX11_inks_73 (by decide) ?_
        have hpo : (0 ≤ x5.toInt ∧ x5.toInt ≤ 40) ∧ (∀ j : Nat, (g8 j).toInt = 0) ∧ ((¬ (0 ≤ p1.toInt ∧ p1.toInt ≤ 99) ∧ ((-1) : Int32).toInt = -1) ∨ ((0 ≤ p1.toInt ∧ p1.toInt ≤ 99) ∧ (p2.toInt = -1 ∨ p2.toInt = -2) ∧ ((-1) : Int32).toInt = -2) ∨ ((0 ≤ p1.toInt ∧ p1.toInt ≤ 99) ∧ (0 ≤ p2.toInt ∧ p2.toInt / 10 ≤ 5 ∧ p2.toInt % 10 ≤ 5 ∧ p2.toInt / 10 ≠ p2.toInt % 10) ∧ ((-1) : Int32).toInt = 0) ∨ ((0 ≤ p1.toInt ∧ p1.toInt ≤ 99) ∧ p2.toInt ≠ -1 ∧ p2.toInt ≠ -2 ∧ ¬ (0 ≤ p2.toInt ∧ p2.toInt / 10 ≤ 5 ∧ p2.toInt % 10 ≤ 5 ∧ p2.toInt / 10 ≠ p2.toInt % 10) ∧ ((-1) : Int32).toInt = -1)) := ⟨h10, h11, (by omega)⟩
        exact ret _ _ _ _ (-1) (x5, g6, g7, g8) dX11_inks_74 hpo hP hD hS
      have c13 := ci_eq c13
      refine lv_aload_n hx hb dX11_inks_33 rfl (lv_at hl 0 rfl) ?_
      refine va_get (D := D) (ci := 11) (v := .ref a3) (C := RX11) (T := TX11) (N := 12) hx hb hts w1 hown hK.1 hP 0 rfl rfl 2 (by decide) w0 (fun _ h9 => h9) rfl dX11_inks_34 ?_
      refine kcm_i hA hAB hP hD hS [false, false, false, true, false, false, true] rfl (fun _ => rfl) (fun hPc hDc => va_runV (As := []) (rest := []) ⟨hx, hb, hml, hown, hts⟩ (k_X3_leastRing l D κ β a3 r3 v3_count v3_marks g8 H.size i4 i5 h11 (by omega) (by omega)) (cwV 0 hts gX11_inks_X3_leastRing rfl rfl rfl (by decide +kernel) ⟨Nat.le_of_ble_eq_true rfl, Nat.le_of_ble_eq_true rfl⟩) (pk_V hK hS hAB hPc hDc 0 (ci := 3) rfl rfl rfl) rfl rfl hl.1 rfl (lv_room (Nat.le_of_ble_eq_true rfl)) dX11_inks_37 ⟨Nat.le_of_ble_eq_true rfl, Nat.le_of_ble_eq_true rfl⟩) (fun x35 u36 H locs hw hPD hS => ?_)
      have h37 : x35.toInt = -2 := hw
      obtain ⟨hP, hD⟩ : PD D A [O11 a11 a7 a5 a3 a2 a6 a4 a10 a9 a1 a0 a8 aN, O7 a7 r7 v7_count v7_holes x5, (cI κ (r7 6) 40 f7_wormOf), O3 a3 r3 v3_count v3_marks, (cI κ (r3 7) 40 g6), (cI κ (r3 8) 40 g7), (cI κ (r3 9) 6 g8)] H := hPD
      have hpo : (0 ≤ x5.toInt ∧ x5.toInt ≤ 40) ∧ (∀ j : Nat, (g8 j).toInt = 0) ∧ ((¬ (0 ≤ p1.toInt ∧ p1.toInt ≤ 99) ∧ x35.toInt = -1) ∨ ((0 ≤ p1.toInt ∧ p1.toInt ≤ 99) ∧ (p2.toInt = -1 ∨ p2.toInt = -2) ∧ x35.toInt = -2) ∨ ((0 ≤ p1.toInt ∧ p1.toInt ≤ 99) ∧ (0 ≤ p2.toInt ∧ p2.toInt / 10 ≤ 5 ∧ p2.toInt % 10 ≤ 5 ∧ p2.toInt / 10 ≠ p2.toInt % 10) ∧ x35.toInt = 0) ∨ ((0 ≤ p1.toInt ∧ p1.toInt ≤ 99) ∧ p2.toInt ≠ -1 ∧ p2.toInt ≠ -2 ∧ ¬ (0 ≤ p2.toInt ∧ p2.toInt / 10 ≤ 5 ∧ p2.toInt % 10 ≤ 5 ∧ p2.toInt / 10 ≠ p2.toInt % 10) ∧ x35.toInt = -1)) := ⟨h10, h11, (by omega)⟩
      exact ret _ _ _ _ x35 (x5, g6, g7, g8) dX11_inks_40 hpo hP hD hS
    have c12 := ci_eq c12
    refine lv_aload_n hx hb dX11_inks_19 rfl (lv_at hl 0 rfl) ?_
    refine va_get (D := D) (ci := 11) (v := .ref a3) (C := RX11) (T := TX11) (N := 12) hx hb hts w1 hown hK.1 hP 0 rfl rfl 2 (by decide) w0 (fun _ h9 => h9) rfl dX11_inks_20 ?_
    refine kcm_i hA hAB hP hD hS [false, false, false, true, false, false, true] rfl (fun _ => rfl) (fun hPc hDc => va_runV (As := []) (rest := []) ⟨hx, hb, hml, hown, hts⟩ (k_X3_firstInk l D κ β a3 r3 v3_count v3_marks g8 H.size i4 i5 h11 (by omega) (by omega)) (cwV 0 hts gX11_inks_X3_firstInk rfl rfl rfl (by decide +kernel) ⟨Nat.le_of_ble_eq_true rfl, Nat.le_of_ble_eq_true rfl⟩) (pk_V hK hS hAB hPc hDc 0 (ci := 3) rfl rfl rfl) rfl rfl hl.1 rfl (lv_room (Nat.le_of_ble_eq_true rfl)) dX11_inks_23 ⟨Nat.le_of_ble_eq_true rfl, Nat.le_of_ble_eq_true rfl⟩) (fun x38 u39 H locs hw hPD hS => ?_)
    have h40 : x38.toInt = -2 := hw
    obtain ⟨hP, hD⟩ : PD D A [O11 a11 a7 a5 a3 a2 a6 a4 a10 a9 a1 a0 a8 aN, O7 a7 r7 v7_count v7_holes x5, (cI κ (r7 6) 40 f7_wormOf), O3 a3 r3 v3_count v3_marks, (cI κ (r3 7) 40 g6), (cI κ (r3 8) 40 g7), (cI κ (r3 9) 6 g8)] H := hPD
    have hpo : (0 ≤ x5.toInt ∧ x5.toInt ≤ 40) ∧ (∀ j : Nat, (g8 j).toInt = 0) ∧ ((¬ (0 ≤ p1.toInt ∧ p1.toInt ≤ 99) ∧ x38.toInt = -1) ∨ ((0 ≤ p1.toInt ∧ p1.toInt ≤ 99) ∧ (p2.toInt = -1 ∨ p2.toInt = -2) ∧ x38.toInt = -2) ∨ ((0 ≤ p1.toInt ∧ p1.toInt ≤ 99) ∧ (0 ≤ p2.toInt ∧ p2.toInt / 10 ≤ 5 ∧ p2.toInt % 10 ≤ 5 ∧ p2.toInt / 10 ≠ p2.toInt % 10) ∧ x38.toInt = 0) ∨ ((0 ≤ p1.toInt ∧ p1.toInt ≤ 99) ∧ p2.toInt ≠ -1 ∧ p2.toInt ≠ -2 ∧ ¬ (0 ≤ p2.toInt ∧ p2.toInt / 10 ≤ 5 ∧ p2.toInt % 10 ≤ 5 ∧ p2.toInt / 10 ≠ p2.toInt % 10) ∧ x38.toInt = -1)) := ⟨h10, h11, (by omega)⟩
    exact ret _ _ _ _ x38 (x5, g6, g7, g8) dX11_inks_26 hpo hP hD hS
  have c4 := ci_eq c4
  refine lv_iconst (v := (-1)) hx hb dX11_inks_7 (by decide) ?_
  have hpo : (0 ≤ v7_worms.toInt ∧ v7_worms.toInt ≤ 40) ∧ (∀ j : Nat, (f3_inksAhead j).toInt = 0) ∧ ((¬ (0 ≤ p1.toInt ∧ p1.toInt ≤ 99) ∧ ((-1) : Int32).toInt = -1) ∨ ((0 ≤ p1.toInt ∧ p1.toInt ≤ 99) ∧ (p2.toInt = -1 ∨ p2.toInt = -2) ∧ ((-1) : Int32).toInt = -2) ∨ ((0 ≤ p1.toInt ∧ p1.toInt ≤ 99) ∧ (0 ≤ p2.toInt ∧ p2.toInt / 10 ≤ 5 ∧ p2.toInt % 10 ≤ 5 ∧ p2.toInt / 10 ≠ p2.toInt % 10) ∧ ((-1) : Int32).toInt = 0) ∨ ((0 ≤ p1.toInt ∧ p1.toInt ≤ 99) ∧ p2.toInt ≠ -1 ∧ p2.toInt ≠ -2 ∧ ¬ (0 ≤ p2.toInt ∧ p2.toInt / 10 ≤ 5 ∧ p2.toInt % 10 ≤ 5 ∧ p2.toInt / 10 ≠ p2.toInt % 10) ∧ ((-1) : Int32).toInt = -1)) := ⟨i3, hf3_inksAhead, (by omega)⟩
  exact ret _ _ _ _ (-1) (v7_worms, f3_inksOver, f3_inksRound, f3_inksAhead) dX11_inks_8 hpo hP hD hS
