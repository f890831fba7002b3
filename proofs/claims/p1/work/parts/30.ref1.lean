set_option maxHeartbeats 4000000 in
set_option maxRecDepth 100000 in
theorem k_X12_within (l : Launch) (D : va_G) (κ : Nat → ClassId) (β : Nat) (sz : Nat) (p1 : Int64) (p2 : Int64) (p3 : Int64) : Met l yX12_within wsX12_within ({ frames := 0, cells := 0, slots := 0, locals := 0 } : Room) (PcK D κ β [] sz [.long p1, .long p2, .long p3]) (QiK D (fun (r : Int32) (u : Unit) => (r.toInt = 1 ∧ p2.toInt ≤ p1.toInt ∧ p1.toInt ≤ p3.toInt) ∨ (r.toInt = 0 ∧ (p1.toInt < p2.toInt ∨ p3.toInt < p1.toInt))) (fun (u : Unit) => []) [] sz) 0 0 (va_A [] sz) := by
  refine ofK_z (cc := cX12_within) (maxL := 6) (own := RX12) (by decide) rfl rfl (Nat.le_of_ble_eq_true rfl) ?_
  intro p e s m args below meth c Q A ls hsz hx hb hml hts hown hK hA hAB hP hD hl ret
  have hS : va_S A s.heap s.heap [] := va_S.rf
  have hl : lv_has ls 6 [(0, .long p1), (2, .long p2), (4, .long p3)] := hl
  have l0 : (0 : Int32).toInt = 0 := by decide
  have l1 : (1 : Int32).toInt = 1 := by decide
  refine lv_lload_n hx hb dX12_within_0 rfl (lv_at hl 0 rfl) ?_
  refine lv_lload_n hx hb dX12_within_1 rfl (lv_at hl 1 rfl) ?_
  refine W.lcmp hx hb dX12_within_2 ?_
  refine lv_topi (fun x1 e2 => ?_)
  have h3 := cl_cmp e2
  refine lv_if_lt (tgt := 17) hx hb dX12_within_3 (by decide) (fun c4 => ?_) (fun c4 => ?_)
  · have c4 := ci_lt c4
    refine lv_iconst (v := 0) hx hb dX12_within_17 (by decide) ?_
    have hpo : ((0 : Int32).toInt = 1 ∧ p2.toInt ≤ p1.toInt ∧ p1.toInt ≤ p3.toInt) ∨ ((0 : Int32).toInt = 0 ∧ (p1.toInt < p2.toInt ∨ p3.toInt < p1.toInt)) := (by omega)
    exact ret _ _ _ _ 0 () dX12_within_18 (by omega) hpo hP hD hS
  have c4 := ci_nlt c4
  refine lv_lload_n hx hb dX12_within_6 rfl (lv_at hl 0 rfl) ?_
  refine lv_lload hx hb dX12_within_7 (lv_at hl 2 rfl) ?_
  refine W.lcmp hx hb dX12_within_9 ?_
  refine lv_topi (fun x5 e6 => ?_)
  have h7 := cl_cmp e6
  refine lv_if_gt (tgt := 17) hx hb dX12_within_10 (by decide) (fun c8 => ?_) (fun c8 => ?_)
  · have c8 := ci_lt c8
    refine lv_iconst (v := 0) hx hb dX12_within_17 (by decide) ?_
    have hpo : ((0 : Int32).toInt = 1 ∧ p2.toInt ≤ p1.toInt ∧ p1.toInt ≤ p3.toInt) ∨ ((0 : Int32).toInt = 0 ∧ (p1.toInt < p2.toInt ∨ p3.toInt < p1.toInt)) := (by omega)
    exact ret _ _ _ _ 0 () dX12_within_18 (by omega) hpo hP hD hS
  have c8 := ci_nlt c8
  refine lv_iconst (v := 1) hx hb dX12_within_13 (by decide) ?_
  refine lv_goto (tgt := 18) hx hb dX12_within_14 (by decide) ?_
  have hpo : ((1 : Int32).toInt = 1 ∧ p2.toInt ≤ p1.toInt ∧ p1.toInt ≤ p3.toInt) ∨ ((1 : Int32).toInt = 0 ∧ (p1.toInt < p2.toInt ∨ p3.toInt < p1.toInt)) := (by omega)
  exact ret _ _ _ _ 1 () dX12_within_18 (by omega) hpo hP hD hS
set_option maxHeartbeats 4000000 in
set_option maxRecDepth 100000 in
theorem k_X12_size (l : Launch) (D : va_G) (κ : Nat → ClassId) (β : Nat) (sz : Nat) (p1 : Int32) (i1 : (1 : Int) ≤ 0) : Met l yX12_size wsX12_size ({ frames := 1, cells := 0, slots := 0, locals := 30 } : Room) (PcK D κ β [] sz [.int p1]) (QiK D (fun (r : Int32) (u : Unit) => True) (fun (u : Unit) => []) [] sz) 0 0 (va_A [] sz) := by
  refine ofK_i (cc := cX12_size) (maxL := 1) (own := RX12) (by decide) rfl rfl (Nat.le_of_ble_eq_true rfl) ?_
  intro p e s m args below meth c Q A ls hsz hx hb hml hts hown hK hA hAB hP hD hl ret
  have hS : va_S A s.heap s.heap [] := va_S.rf
  have hl : lv_has ls 1 [(0, .int p1)] := hl
  exfalso
  omega
set_option maxHeartbeats 4000000 in
set_option maxRecDepth 100000 in
theorem k_X12_isSheet (l : Launch) (D : va_G) (κ : Nat → ClassId) (β : Nat) (a12 : Nat) (r12 : Nat → Nat) (v12_keptMany : Int32) (v12_done : Int32) (v12_sheets : Int32) (v12_holes : Int32) (v12_worms : Int32) (v12_laidMany : Int32) (v12_wanted : Int32) (v12_orderMany : Int32) (v12_firstOrder : Int32) (v12_lines : Int32) (v12_marks : Int32) (v12_dots : Int32) (v12_madeIn : Int32) (v12_bound : Int32) (v12_places : Int32) (v12_maps : Int32) (v12_tapeMany : Int32) (v12_stories : Int32) (v12_base : Int32) (v12_at : Int32) (v12_ends : Int32) (v12_fault : Int32) (v12_opened : Int32) (v12_bodies : Int32) (v12_ran : Int32) (v12_ownKind : Int32) (v12_ownNumber : Int32) (sz : Nat) (p1 : Int32) (i1 : Rg 0 40 v12_keptMany) (i2 : Rg 0 40 v12_done) (i3 : Rg 0 8 v12_sheets) (i4 : Rg 0 40 v12_holes) (i5 : Rg 0 40 v12_worms) (i6 : Rg 0 8 v12_laidMany) (i7 : Rg 0 8 v12_wanted) (i8 : Rg 0 20 v12_lines) (i9 : Rg 0 60 v12_marks) (i10 : Rg 0 40 v12_dots) (i11 : Rg 0 20 v12_places) (i12 : Rg 0 8 v12_maps) (i13 : Rg 0 120 v12_tapeMany) (i14 : Rg 0 6 v12_stories) (i15 : Rg 0 50 v12_bodies) (i16 : Rg 0 1000 v12_ran) (i17 : v12_done.toInt ≤ v12_keptMany.toInt) (i18 : v12_keptMany.toInt = 0) (i19 : v12_done.toInt = 0) (i20 : v12_sheets.toInt = 0) (i21 : v12_holes.toInt = 0) (i22 : v12_worms.toInt = 0) (i23 : v12_lines.toInt = 0) (i24 : v12_marks.toInt = 0) (i25 : v12_dots.toInt = 0) (i26 : v12_madeIn.toInt = 2001) (i27 : v12_places.toInt = 0) (i28 : v12_maps.toInt = 0) (i29 : v12_tapeMany.toInt = 0) (i30 : v12_stories.toInt = 0) (i31 : v12_bodies.toInt = 0) : Met l yX12_isSheet wsX12_isSheet ({ frames := 1, cells := 0, slots := 0, locals := 25 } : Room) (PcK D κ β [O12 a12 r12 v12_keptMany v12_done v12_sheets v12_holes v12_worms v12_laidMany v12_wanted v12_orderMany v12_firstOrder v12_lines v12_marks v12_dots v12_madeIn v12_bound v12_places v12_maps v12_tapeMany v12_stories v12_base v12_at v12_ends v12_fault v12_opened v12_bodies v12_ran v12_ownKind v12_ownNumber] sz [.ref a12, .int p1]) (QiK D (fun (r : Int32) (u : Unit) => (r.toInt = 1 ∧ 0 ≤ p1.toInt ∧ p1.toInt < v12_sheets.toInt) ∨ (r.toInt = 0 ∧ (p1.toInt < 0 ∨ v12_sheets.toInt ≤ p1.toInt))) (fun (u : Unit) => [O12 a12 r12 v12_keptMany v12_done v12_sheets v12_holes v12_worms v12_laidMany v12_wanted v12_orderMany v12_firstOrder v12_lines v12_marks v12_dots v12_madeIn v12_bound v12_places v12_maps v12_tapeMany v12_stories v12_base v12_at v12_ends v12_fault v12_opened v12_bodies v12_ran v12_ownKind v12_ownNumber]) [O12 a12 r12 v12_keptMany v12_done v12_sheets v12_holes v12_worms v12_laidMany v12_wanted v12_orderMany v12_firstOrder v12_lines v12_marks v12_dots v12_madeIn v12_bound v12_places v12_maps v12_tapeMany v12_stories v12_base v12_at v12_ends v12_fault v12_opened v12_bodies v12_ran v12_ownKind v12_ownNumber] sz) 0 0 (va_A [O12 a12 r12 v12_keptMany v12_done v12_sheets v12_holes v12_worms v12_laidMany v12_wanted v12_orderMany v12_firstOrder v12_lines v12_marks v12_dots v12_madeIn v12_bound v12_places v12_maps v12_tapeMany v12_stories v12_base v12_at v12_ends v12_fault v12_opened v12_bodies v12_ran v12_ownKind v12_ownNumber] sz) := by
  refine ofK_z (cc := cX12_isSheet) (maxL := 2) (own := RX12) (by decide) rfl rfl (Nat.le_of_ble_eq_true rfl) ?_
  intro p e s m args below meth c Q A ls hsz hx hb hml hts hown hK hA hAB hP hD hl ret
  have hS : va_S A s.heap s.heap [] := va_S.rf
  have hl : lv_has ls 2 [(0, .ref a12), (1, .int p1)] := hl
  have w0 := hts (.fieldLink RX12 133 "OlderSkinModel" "sheets" "I") (List.mem_of_getElem? (i := 1) rfl)
  have w1 := (fun w h => List.mem_cons_of_mem _ (List.mem_append_right _ h) : ∀ w ∈ u_ws RX12 TX12 63, w ∈ wsX12_isSheet)
  have l0 : (0 : Int64).toInt = 0 := by decide
  have l1 : (1 : Int32).toInt = 1 := by decide
  have i3 : 0 ≤ v12_sheets.toInt ∧ v12_sheets.toInt ≤ 8 := i3
  refine lv_iload_n hx hb dX12_isSheet_0 rfl (lv_at hl 1 rfl) ?_
  refine lv_i2l hx hb dX12_isSheet_1 rfl ?_
  refine lv_topl (fun x1 e2 => ?_)
  have h3 : x1.toInt = p1.toInt := cl_i2l e2
  refine lv_lconst (v := (0 : Int64)) hx hb dX12_isSheet_2 (by decide) ?_
  refine lv_aload_n hx hb dX12_isSheet_3 rfl (lv_at hl 0 rfl) ?_
  refine va_get (D := D) (ci := 12) (v := .int v12_sheets) (C := RX12) (T := TX12) (N := 63) hx hb hts w1 hown hK.1 hP 0 rfl rfl 6 (by decide) w0 (fun _ h9 => h9) rfl dX12_isSheet_4 ?_
  refine lv_iconst (v := 1) hx hb dX12_isSheet_7 (by decide) ?_
  refine lv_isub hx hb dX12_isSheet_8 ?_
  refine lv_topi (fun x4 e5 => ?_)
  try have h6 : x4.toInt = v12_sheets.toInt - (1 : Int32).toInt := ci_sub e5 (by omega) (by omega)
  refine lv_i2l hx hb dX12_isSheet_9 rfl ?_
  refine lv_topl (fun x7 e8 => ?_)
  have h9 : x7.toInt = x4.toInt := cl_i2l e8
  refine kcm_i hA hAB hP hD hS [false] rfl (fun _ => rfl) (fun hPc hDc => va_runS (As := [.long x1, .long (0 : Int64), .long x7]) (rest := []) ⟨hx, hb, hml, hown, hts⟩ (k_X12_within l D κ β s.heap.size x1 (0 : Int64) x7) (va_cwS 3 hts gX12_isSheet_X12_within rfl rfl rfl (by decide +kernel) ⟨Nat.le_of_ble_eq_true rfl, Nat.le_of_ble_eq_true rfl⟩) (pk_S hK hS hAB hPc hDc) rfl rfl hl.1 rfl (lv_room (Nat.le_of_ble_eq_true rfl)) dX12_isSheet_10 ⟨Nat.le_of_ble_eq_true rfl, Nat.le_of_ble_eq_true rfl⟩) (fun x10 u11 H locs hw hPD hS => ?_)
  have h12 : (x10.toInt = 1 ∧ (0 : Int64).toInt ≤ x1.toInt ∧ x1.toInt ≤ x7.toInt) ∨ (x10.toInt = 0 ∧ (x1.toInt < (0 : Int64).toInt ∨ x7.toInt < x1.toInt)) := hw
  obtain ⟨hP, hD⟩ : PD D A [O12 a12 r12 v12_keptMany v12_done v12_sheets v12_holes v12_worms v12_laidMany v12_wanted v12_orderMany v12_firstOrder v12_lines v12_marks v12_dots v12_madeIn v12_bound v12_places v12_maps v12_tapeMany v12_stories v12_base v12_at v12_ends v12_fault v12_opened v12_bodies v12_ran v12_ownKind v12_ownNumber] H := hPD
  have hpo : (x10.toInt = 1 ∧ 0 ≤ p1.toInt ∧ p1.toInt < v12_sheets.toInt) ∨ (x10.toInt = 0 ∧ (p1.toInt < 0 ∨ v12_sheets.toInt ≤ p1.toInt)) := (by omega)
  exact ret _ _ _ _ x10 () dX12_isSheet_13 (by omega) hpo hP hD hS
set_option maxHeartbeats 4000000 in
set_option maxRecDepth 100000 in
theorem k_X12_isHole (l : Launch) (D : va_G) (κ : Nat → ClassId) (β : Nat) (a12 : Nat) (r12 : Nat → Nat) (v12_keptMany : Int32) (v12_done : Int32) (v12_sheets : Int32) (v12_holes : Int32) (v12_worms : Int32) (v12_laidMany : Int32) (v12_wanted : Int32) (v12_orderMany : Int32) (v12_firstOrder : Int32) (v12_lines : Int32) (v12_marks : Int32) (v12_dots : Int32) (v12_madeIn : Int32) (v12_bound : Int32) (v12_places : Int32) (v12_maps : Int32) (v12_tapeMany : Int32) (v12_stories : Int32) (v12_base : Int32) (v12_at : Int32) (v12_ends : Int32) (v12_fault : Int32) (v12_opened : Int32) (v12_bodies : Int32) (v12_ran : Int32) (v12_ownKind : Int32) (v12_ownNumber : Int32) (sz : Nat) (p1 : Int32) (i1 : Rg 0 40 v12_keptMany) (i2 : Rg 0 40 v12_done) (i3 : Rg 0 8 v12_sheets) (i4 : Rg 0 40 v12_holes) (i5 : Rg 0 40 v12_worms) (i6 : Rg 0 8 v12_laidMany) (i7 : Rg 0 8 v12_wanted) (i8 : Rg 0 20 v12_lines) (i9 : Rg 0 60 v12_marks) (i10 : Rg 0 40 v12_dots) (i11 : Rg 0 20 v12_places) (i12 : Rg 0 8 v12_maps) (i13 : Rg 0 120 v12_tapeMany) (i14 : Rg 0 6 v12_stories) (i15 : Rg 0 50 v12_bodies) (i16 : Rg 0 1000 v12_ran) (i17 : v12_done.toInt ≤ v12_keptMany.toInt) (i18 : v12_keptMany.toInt = 0) (i19 : v12_done.toInt = 0) (i20 : v12_sheets.toInt = 0) (i21 : v12_holes.toInt = 0) (i22 : v12_worms.toInt = 0) (i23 : v12_lines.toInt = 0) (i24 : v12_marks.toInt = 0) (i25 : v12_dots.toInt = 0) (i26 : v12_madeIn.toInt = 2001) (i27 : v12_places.toInt = 0) (i28 : v12_maps.toInt = 0) (i29 : v12_tapeMany.toInt = 0) (i30 : v12_stories.toInt = 0) (i31 : v12_bodies.toInt = 0) : Met l yX12_isHole wsX12_isHole ({ frames := 1, cells := 0, slots := 0, locals := 25 } : Room) (PcK D κ β [O12 a12 r12 v12_keptMany v12_done v12_sheets v12_holes v12_worms v12_laidMany v12_wanted v12_orderMany v12_firstOrder v12_lines v12_marks v12_dots v12_madeIn v12_bound v12_places v12_maps v12_tapeMany v12_stories v12_base v12_at v12_ends v12_fault v12_opened v12_bodies v12_ran v12_ownKind v12_ownNumber] sz [.ref a12, .int p1]) (QiK D (fun (r : Int32) (u : Unit) => (r.toInt = 1 ∧ 0 ≤ p1.toInt ∧ p1.toInt < v12_holes.toInt) ∨ (r.toInt = 0 ∧ (p1.toInt < 0 ∨ v12_holes.toInt ≤ p1.toInt))) (fun (u : Unit) => [O12 a12 r12 v12_keptMany v12_done v12_sheets v12_holes v12_worms v12_laidMany v12_wanted v12_orderMany v12_firstOrder v12_lines v12_marks v12_dots v12_madeIn v12_bound v12_places v12_maps v12_tapeMany v12_stories v12_base v12_at v12_ends v12_fault v12_opened v12_bodies v12_ran v12_ownKind v12_ownNumber]) [O12 a12 r12 v12_keptMany v12_done v12_sheets v12_holes v12_worms v12_laidMany v12_wanted v12_orderMany v12_firstOrder v12_lines v12_marks v12_dots v12_madeIn v12_bound v12_places v12_maps v12_tapeMany v12_stories v12_base v12_at v12_ends v12_fault v12_opened v12_bodies v12_ran v12_ownKind v12_ownNumber] sz) 0 0 (va_A [O12 a12 r12 v12_keptMany v12_done v12_sheets v12_holes v12_worms v12_laidMany v12_wanted v12_orderMany v12_firstOrder v12_lines v12_marks v12_dots v12_madeIn v12_bound v12_places v12_maps v12_tapeMany v12_stories v12_base v12_at v12_ends v12_fault v12_opened v12_bodies v12_ran v12_ownKind v12_ownNumber] sz) := by
  refine ofK_z (cc := cX12_isHole) (maxL := 2) (own := RX12) (by decide) rfl rfl (Nat.le_of_ble_eq_true rfl) ?_
  intro p e s m args below meth c Q A ls hsz hx hb hml hts hown hK hA hAB hP hD hl ret
  have hS : va_S A s.heap s.heap [] := va_S.rf
  have hl : lv_has ls 2 [(0, .ref a12), (1, .int p1)] := hl
  have w0 := hts (.fieldLink RX12 140 "OlderSkinModel" "holes" "I") (List.mem_of_getElem? (i := 1) rfl)
  have w1 := (fun w h => List.mem_cons_of_mem _ (List.mem_append_right _ h) : ∀ w ∈ u_ws RX12 TX12 63, w ∈ wsX12_isHole)
  have l0 : (0 : Int64).toInt = 0 := by decide
  have l1 : (1 : Int32).toInt = 1 := by decide
  have i4 : 0 ≤ v12_holes.toInt ∧ v12_holes.toInt ≤ 40 := i4
  refine lv_iload_n hx hb dX12_isHole_0 rfl (lv_at hl 1 rfl) ?_
  refine lv_i2l hx hb dX12_isHole_1 rfl ?_
  refine lv_topl (fun x1 e2 => ?_)
  have h3 : x1.toInt = p1.toInt := cl_i2l e2
  refine lv_lconst (v := (0 : Int64)) hx hb dX12_isHole_2 (by decide) ?_
  refine lv_aload_n hx hb dX12_isHole_3 rfl (lv_at hl 0 rfl) ?_
  refine va_get (D := D) (ci := 12) (v := .int v12_holes) (C := RX12) (T := TX12) (N := 63) hx hb hts w1 hown hK.1 hP 0 rfl rfl 7 (by decide) w0 (fun _ h9 => h9) rfl dX12_isHole_4 ?_
  refine lv_iconst (v := 1) hx hb dX12_isHole_7 (by decide) ?_
  refine lv_isub hx hb dX12_isHole_8 ?_
  refine lv_topi (fun x4 e5 => ?_)
  try have h6 : x4.toInt = v12_holes.toInt - (1 : Int32).toInt := ci_sub e5 (by omega) (by omega)
  refine lv_i2l hx hb dX12_isHole_9 rfl ?_
  refine lv_topl (fun x7 e8 => ?_)
  have h9 : x7.toInt = x4.toInt := cl_i2l e8
  refine kcm_i hA hAB hP hD hS [false] rfl (fun _ => rfl) (fun hPc hDc => va_runS (As := [.long x1, .long (0 : Int64), .long x7]) (rest := []) ⟨hx, hb, hml, hown, hts⟩ (k_X12_within l D κ β s.heap.size x1 (0 : Int64) x7) (va_cwS 3 hts gX12_isHole_X12_within rfl rfl rfl (by decide +kernel) ⟨Nat.le_of_ble_eq_true rfl, Nat.le_of_ble_eq_true rfl⟩) (pk_S hK hS hAB hPc hDc) rfl rfl hl.1 rfl (lv_room (Nat.le_of_ble_eq_true rfl)) dX12_isHole_10 ⟨Nat.le_of_ble_eq_true rfl, Nat.le_of_ble_eq_true rfl⟩) (fun x10 u11 H locs hw hPD hS => ?_)
  have h12 : (x10.toInt = 1 ∧ (0 : Int64).toInt ≤ x1.toInt ∧ x1.toInt ≤ x7.toInt) ∨ (x10.toInt = 0 ∧ (x1.toInt < (0 : Int64).toInt ∨ x7.toInt < x1.toInt)) := hw
  obtain ⟨hP, hD⟩ : PD D A [O12 a12 r12 v12_keptMany v12_done v12_sheets v12_holes v12_worms v12_laidMany v12_wanted v12_orderMany v12_firstOrder v12_lines v12_marks v12_dots v12_madeIn v12_bound v12_places v12_maps v12_tapeMany v12_stories v12_base v12_at v12_ends v12_fault v12_opened v12_bodies v12_ran v12_ownKind v12_ownNumber] H := hPD
  have hpo : (x10.toInt = 1 ∧ 0 ≤ p1.toInt ∧ p1.toInt < v12_holes.toInt) ∨ (x10.toInt = 0 ∧ (p1.toInt < 0 ∨ v12_holes.toInt ≤ p1.toInt)) := (by omega)
  exact ret _ _ _ _ x10 () dX12_isHole_13 (by omega) hpo hP hD hS
set_option maxHeartbeats 4000000 in
set_option maxRecDepth 100000 in
theorem k_X12_isYear (l : Launch) (D : va_G) (κ : Nat → ClassId) (β : Nat) (sz : Nat) (p1 : Int32) : Met l yX12_isYear wsX12_isYear ({ frames := 1, cells := 0, slots := 0, locals := 25 } : Room) (PcK D κ β [] sz [.int p1]) (QiK D (fun (r : Int32) (u : Unit) => (r.toInt = 1 ∧ 0 ≤ p1.toInt ∧ p1.toInt ≤ 2000) ∨ (r.toInt = 0 ∧ (p1.toInt < 0 ∨ 2000 < p1.toInt))) (fun (u : Unit) => []) [] sz) 0 0 (va_A [] sz) := by
  refine ofK_z (cc := cX12_isYear) (maxL := 1) (own := RX12) (by decide) rfl rfl (Nat.le_of_ble_eq_true rfl) ?_
  intro p e s m args below meth c Q A ls hsz hx hb hml hts hown hK hA hAB hP hD hl ret
  have hS : va_S A s.heap s.heap [] := va_S.rf
  have hl : lv_has ls 1 [(0, .int p1)] := hl
  have w0 := hts (.constantLong RX12 143 (2000)) (List.mem_of_getElem? (i := 1) rfl)
  have l0 : (0 : Int64).toInt = 0 := by decide
  have l1 : (2000 : Int64).toInt = 2000 := by decide
  refine lv_iload_n hx hb dX12_isYear_0 rfl (lv_at hl 0 rfl) ?_
  refine lv_i2l hx hb dX12_isYear_1 rfl ?_
  refine lv_topl (fun x1 e2 => ?_)
  have h3 : x1.toInt = p1.toInt := cl_i2l e2
  refine lv_lconst (v := (0 : Int64)) hx hb dX12_isYear_2 (by decide) ?_
  refine lv_ldc2 (v := (2000 : Int64)) hx hb hown w0 dX12_isYear_3 ?_
  refine kcm_i hA hAB hP hD hS [] rfl (fun _ => rfl) (fun hPc hDc => va_runS (As := [.long x1, .long (0 : Int64), .long (2000 : Int64)]) (rest := []) ⟨hx, hb, hml, hown, hts⟩ (k_X12_within l D κ β s.heap.size x1 (0 : Int64) (2000 : Int64)) (va_cwS 3 hts gX12_isYear_X12_within rfl rfl rfl (by decide +kernel) ⟨Nat.le_of_ble_eq_true rfl, Nat.le_of_ble_eq_true rfl⟩) (pk_S hK hS hAB hPc hDc) rfl rfl hl.1 rfl (lv_room (Nat.le_of_ble_eq_true rfl)) dX12_isYear_6 ⟨Nat.le_of_ble_eq_true rfl, Nat.le_of_ble_eq_true rfl⟩) (fun x4 u5 H locs hw hPD hS => ?_)
  have h6 : (x4.toInt = 1 ∧ (0 : Int64).toInt ≤ x1.toInt ∧ x1.toInt ≤ (2000 : Int64).toInt) ∨ (x4.toInt = 0 ∧ (x1.toInt < (0 : Int64).toInt ∨ (2000 : Int64).toInt < x1.toInt)) := hw
  obtain ⟨hP, hD⟩ : PD D A [] H := hPD
  have hpo : (x4.toInt = 1 ∧ 0 ≤ p1.toInt ∧ p1.toInt ≤ 2000) ∨ (x4.toInt = 0 ∧ (p1.toInt < 0 ∨ 2000 < p1.toInt)) := (by omega)
  exact ret _ _ _ _ x4 () dX12_isYear_9 (by omega) hpo hP hD hS
set_option maxHeartbeats 4000000 in
set_option maxRecDepth 100000 in
theorem k_X12_isSlack (l : Launch) (D : va_G) (κ : Nat → ClassId) (β : Nat) (sz : Nat) (p1 : Int32) : Met l yX12_isSlack wsX12_isSlack ({ frames := 1, cells := 0, slots := 0, locals := 25 } : Room) (PcK D κ β [] sz [.int p1]) (QiK D (fun (r : Int32) (u : Unit) => (r.toInt = 1 ∧ 0 ≤ p1.toInt ∧ p1.toInt ≤ 99) ∨ (r.toInt = 0 ∧ (p1.toInt < 0 ∨ 99 < p1.toInt))) (fun (u : Unit) => []) [] sz) 0 0 (va_A [] sz) := by
  refine ofK_z (cc := cX12_isSlack) (maxL := 1) (own := RX12) (by decide) rfl rfl (Nat.le_of_ble_eq_true rfl) ?_
  intro p e s m args below meth c Q A ls hsz hx hb hml hts hown hK hA hAB hP hD hl ret
  have hS : va_S A s.heap s.heap [] := va_S.rf
  have hl : lv_has ls 1 [(0, .int p1)] := hl
  have w0 := hts (.constantLong RX12 145 (99)) (List.mem_of_getElem? (i := 1) rfl)
  have l0 : (0 : Int64).toInt = 0 := by decide
  have l1 : (99 : Int64).toInt = 99 := by decide
  refine lv_iload_n hx hb dX12_isSlack_0 rfl (lv_at hl 0 rfl) ?_
  refine lv_i2l hx hb dX12_isSlack_1 rfl ?_
  refine lv_topl (fun x1 e2 => ?_)
  have h3 : x1.toInt = p1.toInt := cl_i2l e2
  refine lv_lconst (v := (0 : Int64)) hx hb dX12_isSlack_2 (by decide) ?_
  refine lv_ldc2 (v := (99 : Int64)) hx hb hown w0 dX12_isSlack_3 ?_
  refine kcm_i hA hAB hP hD hS [] rfl (fun _ => rfl) (fun hPc hDc => va_runS (As := [.long x1, .long (0 : Int64), .long (99 : Int64)]) (rest := []) ⟨hx, hb, hml, hown, hts⟩ (k_X12_within l D κ β s.heap.size x1 (0 : Int64) (99 : Int64)) (va_cwS 3 hts gX12_isSlack_X12_within rfl rfl rfl (by decide +kernel) ⟨Nat.le_of_ble_eq_true rfl, Nat.le_of_ble_eq_true rfl⟩) (pk_S hK hS hAB hPc hDc) rfl rfl hl.1 rfl (lv_room (Nat.le_of_ble_eq_true rfl)) dX12_isSlack_6 ⟨Nat.le_of_ble_eq_true rfl, Nat.le_of_ble_eq_true rfl⟩) (fun x4 u5 H locs hw hPD hS => ?_)
  have h6 : (x4.toInt = 1 ∧ (0 : Int64).toInt ≤ x1.toInt ∧ x1.toInt ≤ (99 : Int64).toInt) ∨ (x4.toInt = 0 ∧ (x1.toInt < (0 : Int64).toInt ∨ (99 : Int64).toInt < x1.toInt)) := hw
  obtain ⟨hP, hD⟩ : PD D A [] H := hPD
  have hpo : (x4.toInt = 1 ∧ 0 ≤ p1.toInt ∧ p1.toInt ≤ 99) ∨ (x4.toInt = 0 ∧ (p1.toInt < 0 ∨ 99 < p1.toInt)) := (by omega)
  exact ret _ _ _ _ x4 () dX12_isSlack_9 (by omega) hpo hP hD hS
set_option maxHeartbeats 4000000 in
set_option maxRecDepth 100000 in
theorem k_X12_isInk (l : Launch) (D : va_G) (κ : Nat → ClassId) (β : Nat) (sz : Nat) (p1 : Int32) : Met l yX12_isInk wsX12_isInk ({ frames := 1, cells := 0, slots := 0, locals := 25 } : Room) (PcK D κ β [] sz [.int p1]) (QiK D (fun (r : Int32) (u : Unit) => (r.toInt = 1 ∧ 0 ≤ p1.toInt ∧ p1.toInt ≤ 5) ∨ (r.toInt = 0 ∧ (p1.toInt < 0 ∨ 5 < p1.toInt))) (fun (u : Unit) => []) [] sz) 0 0 (va_A [] sz) := by
  refine ofK_z (cc := cX12_isInk) (maxL := 1) (own := RX12) (by decide) rfl rfl (Nat.le_of_ble_eq_true rfl) ?_
  intro p e s m args below meth c Q A ls hsz hx hb hml hts hown hK hA hAB hP hD hl ret
  have hS : va_S A s.heap s.heap [] := va_S.rf
  have hl : lv_has ls 1 [(0, .int p1)] := hl
  have w0 := hts (.constantLong RX12 195 (5)) (List.mem_of_getElem? (i := 1) rfl)
  have l0 : (0 : Int64).toInt = 0 := by decide
  have l1 : (5 : Int64).toInt = 5 := by decide
  refine lv_iload_n hx hb dX12_isInk_0 rfl (lv_at hl 0 rfl) ?_
  refine lv_i2l hx hb dX12_isInk_1 rfl ?_
  refine lv_topl (fun x1 e2 => ?_)
  have h3 : x1.toInt = p1.toInt := cl_i2l e2
  refine lv_lconst (v := (0 : Int64)) hx hb dX12_isInk_2 (by decide) ?_
  refine lv_ldc2 (v := (5 : Int64)) hx hb hown w0 dX12_isInk_3 ?_
  refine kcm_i hA hAB hP hD hS [] rfl (fun _ => rfl) (fun hPc hDc => va_runS (As := [.long x1, .long (0 : Int64), .long (5 : Int64)]) (rest := []) ⟨hx, hb, hml, hown, hts⟩ (k_X12_within l D κ β s.heap.size x1 (0 : Int64) (5 : Int64)) (va_cwS 3 hts gX12_isInk_X12_within rfl rfl rfl (by decide +kernel) ⟨Nat.le_of_ble_eq_true rfl, Nat.le_of_ble_eq_true rfl⟩) (pk_S hK hS hAB hPc hDc) rfl rfl hl.1 rfl (lv_room (Nat.le_of_ble_eq_true rfl)) dX12_isInk_6 ⟨Nat.le_of_ble_eq_true rfl, Nat.le_of_ble_eq_true rfl⟩) (fun x4 u5 H locs hw hPD hS => ?_)
  have h6 : (x4.toInt = 1 ∧ (0 : Int64).toInt ≤ x1.toInt ∧ x1.toInt ≤ (5 : Int64).toInt) ∨ (x4.toInt = 0 ∧ (x1.toInt < (0 : Int64).toInt ∨ (5 : Int64).toInt < x1.toInt)) := hw
  obtain ⟨hP, hD⟩ : PD D A [] H := hPD
  have hpo : (x4.toInt = 1 ∧ 0 ≤ p1.toInt ∧ p1.toInt ≤ 5) ∨ (x4.toInt = 0 ∧ (p1.toInt < 0 ∨ 5 < p1.toInt)) := (by omega)
  exact ret _ _ _ _ x4 () dX12_isInk_9 (by omega) hpo hP hD hS
set_option maxHeartbeats 4000000 in
set_option maxRecDepth 100000 in
theorem k_X12_isDot (l : Launch) (D : va_G) (κ : Nat → ClassId) (β : Nat) (sz : Nat) (p1 : Int32) (p2 : Int32) (p3 : Int32) : Met l yX12_isDot wsX12_isDot ({ frames := 1, cells := 0, slots := 0, locals := 25 } : Room) (PcK D κ β [] sz [.int p1, .int p2, .int p3]) (QiK D (fun (r : Int32) (u : Unit) => (r.toInt = 1 ∧ 0 ≤ p1.toInt ∧ p1.toInt ≤ 4 ∧ 0 ≤ p2.toInt ∧ p2.toInt ≤ 7 ∧ 0 ≤ p3.toInt ∧ p3.toInt ≤ 9999) ∨ (r.toInt = 0 ∧ (p1.toInt < 0 ∨ 4 < p1.toInt ∨ p2.toInt < 0 ∨ 7 < p2.toInt ∨ p3.toInt < 0 ∨ 9999 < p3.toInt))) (fun (u : Unit) => []) [] sz) 0 0 (va_A [] sz) := by
  refine ofK_z (cc := cX12_isDot) (maxL := 3) (own := RX12) (by decide) rfl rfl (Nat.le_of_ble_eq_true rfl) ?_
  intro p e s m args below meth c Q A ls hsz hx hb hml hts hown hK hA hAB hP hD hl ret
  have hS : va_S A s.heap s.heap [] := va_S.rf
  have hl : lv_has ls 3 [(0, .int p1), (1, .int p2), (2, .int p3)] := hl
  have w0 := hts (.constantLong RX12 221 (4)) (List.mem_of_getElem? (i := 1) rfl)
  have w1 := hts (.constantLong RX12 223 (7)) (List.mem_of_getElem? (i := 2) rfl)
  have w2 := hts (.constantLong RX12 225 (9999)) (List.mem_of_getElem? (i := 3) rfl)
  have l0 : (0 : Int64).toInt = 0 := by decide
  have l1 : (4 : Int64).toInt = 4 := by decide
  have l2 : (0 : Int32).toInt = 0 := by decide
  have l3 : (7 : Int64).toInt = 7 := by decide
  have l4 : (9999 : Int64).toInt = 9999 := by decide
  have l5 : (1 : Int32).toInt = 1 := by decide
  refine lv_iload_n hx hb dX12_isDot_0 rfl (lv_at hl 0 rfl) ?_
  refine lv_i2l hx hb dX12_isDot_1 rfl ?_
  refine lv_topl (fun x1 e2 => ?_)
  have h3 : x1.toInt = p1.toInt := cl_i2l e2
  refine lv_lconst (v := (0 : Int64)) hx hb dX12_isDot_2 (by decide) ?_
  refine lv_ldc2 (v := (4 : Int64)) hx hb hown w0 dX12_isDot_3 ?_
  refine kcm_i hA hAB hP hD hS [] rfl (fun _ => rfl) (fun hPc hDc => va_runS (As := [.long x1, .long (0 : Int64), .long (4 : Int64)]) (rest := []) ⟨hx, hb, hml, hown, hts⟩ (k_X12_within l D κ β s.heap.size x1 (0 : Int64) (4 : Int64)) (va_cwS 3 hts gX12_isDot_X12_within rfl rfl rfl (by decide +kernel) ⟨Nat.le_of_ble_eq_true rfl, Nat.le_of_ble_eq_true rfl⟩) (pk_S hK hS hAB hPc hDc) rfl rfl hl.1 rfl (lv_room (Nat.le_of_ble_eq_true rfl)) dX12_isDot_6 ⟨Nat.le_of_ble_eq_true rfl, Nat.le_of_ble_eq_true rfl⟩) (fun x4 u5 H locs hw hPD hS => ?_)
  have h6 : (x4.toInt = 1 ∧ (0 : Int64).toInt ≤ x1.toInt ∧ x1.toInt ≤ (4 : Int64).toInt) ∨ (x4.toInt = 0 ∧ (x1.toInt < (0 : Int64).toInt ∨ (4 : Int64).toInt < x1.toInt)) := hw
  obtain ⟨hP, hD⟩ : PD D A [] H := hPD
  refine lv_if_eq (tgt := 40) hx hb dX12_isDot_9 (by decide) (fun c7 => ?_) (fun c7 => ?_)
  · have c7 := ci_eq c7
    refine lv_iconst (v := 0) hx hb dX12_isDot_40 (by decide) ?_
    have hpo : ((0 : Int32).toInt = 1 ∧ 0 ≤ p1.toInt ∧ p1.toInt ≤ 4 ∧ 0 ≤ p2.toInt ∧ p2.toInt ≤ 7 ∧ 0 ≤ p3.toInt ∧ p3.toInt ≤ 9999) ∨ ((0 : Int32).toInt = 0 ∧ (p1.toInt < 0 ∨ 4 < p1.toInt ∨ p2.toInt < 0 ∨ 7 < p2.toInt ∨ p3.toInt < 0 ∨ 9999 < p3.toInt)) := (by omega)
    exact ret _ _ _ _ 0 () dX12_isDot_41 (by omega) hpo hP hD hS
  have c7 := ci_ne c7
  refine lv_iload_n hx hb dX12_isDot_12 rfl (lv_at hl 1 rfl) ?_
  refine lv_i2l hx hb dX12_isDot_13 rfl ?_
  refine lv_topl (fun x8 e9 => ?_)
  have h10 : x8.toInt = p2.toInt := cl_i2l e9
  refine lv_lconst (v := (0 : Int64)) hx hb dX12_isDot_14 (by decide) ?_
  refine lv_ldc2 (v := (7 : Int64)) hx hb hown w1 dX12_isDot_15 ?_
  refine kcm_i hA hAB hP hD hS [] rfl (fun _ => rfl) (fun hPc hDc => va_runS (As := [.long x8, .long (0 : Int64), .long (7 : Int64)]) (rest := []) ⟨hx, hb, hml, hown, hts⟩ (k_X12_within l D κ β H.size x8 (0 : Int64) (7 : Int64)) (va_cwS 3 hts gX12_isDot_X12_within rfl rfl rfl (by decide +kernel) ⟨Nat.le_of_ble_eq_true rfl, Nat.le_of_ble_eq_true rfl⟩) (pk_S hK hS hAB hPc hDc) rfl rfl hl.1 rfl (lv_room (Nat.le_of_ble_eq_true rfl)) dX12_isDot_18 ⟨Nat.le_of_ble_eq_true rfl, Nat.le_of_ble_eq_true rfl⟩) (fun x11 u12 H locs hw hPD hS => ?_)
  have h13 : (x11.toInt = 1 ∧ (0 : Int64).toInt ≤ x8.toInt ∧ x8.toInt ≤ (7 : Int64).toInt) ∨ (x11.toInt = 0 ∧ (x8.toInt < (0 : Int64).toInt ∨ (7 : Int64).toInt < x8.toInt)) := hw
  obtain ⟨hP, hD⟩ : PD D A [] H := hPD
  refine lv_if_eq (tgt := 40) hx hb dX12_isDot_21 (by decide) (fun c14 => ?_) (fun c14 => ?_)
  · have c14 := ci_eq c14
    refine lv_iconst (v := 0) hx hb dX12_isDot_40 (by decide) ?_
    have hpo : ((0 : Int32).toInt = 1 ∧ 0 ≤ p1.toInt ∧ p1.toInt ≤ 4 ∧ 0 ≤ p2.toInt ∧ p2.toInt ≤ 7 ∧ 0 ≤ p3.toInt ∧ p3.toInt ≤ 9999) ∨ ((0 : Int32).toInt = 0 ∧ (p1.toInt < 0 ∨ 4 < p1.toInt ∨ p2.toInt < 0 ∨ 7 < p2.toInt ∨ p3.toInt < 0 ∨ 9999 < p3.toInt)) := (by omega)
    exact ret _ _ _ _ 0 () dX12_isDot_41 (by omega) hpo hP hD hS
  have c14 := ci_ne c14
  refine lv_iload_n hx hb dX12_isDot_24 rfl (lv_at hl 2 rfl) ?_
  refine lv_i2l hx hb dX12_isDot_25 rfl ?_
  refine lv_topl (fun x15 e16 => ?_)
  have h17 : x15.toInt = p3.toInt := cl_i2l e16
  refine lv_lconst (v := (0 : Int64)) hx hb dX12_isDot_26 (by decide) ?_
  refine lv_ldc2 (v := (9999 : Int64)) hx hb hown w2 dX12_isDot_27 ?_
  refine kcm_i hA hAB hP hD hS [] rfl (fun _ => rfl) (fun hPc hDc => va_runS (As := [.long x15, .long (0 : Int64), .long (9999 : Int64)]) (rest := []) ⟨hx, hb, hml, hown, hts⟩ (k_X12_within l D κ β H.size x15 (0 : Int64) (9999 : Int64)) (va_cwS 3 hts gX12_isDot_X12_within rfl rfl rfl (by decide +kernel) ⟨Nat.le_of_ble_eq_true rfl, Nat.le_of_ble_eq_true rfl⟩) (pk_S hK hS hAB hPc hDc) rfl rfl hl.1 rfl (lv_room (Nat.le_of_ble_eq_true rfl)) dX12_isDot_30 ⟨Nat.le_of_ble_eq_true rfl, Nat.le_of_ble_eq_true rfl⟩) (fun x18 u19 H locs hw hPD hS => ?_)
  have h20 : (x18.toInt = 1 ∧ (0 : Int64).toInt ≤ x15.toInt ∧ x15.toInt ≤ (9999 : Int64).toInt) ∨ (x18.toInt = 0 ∧ (x15.toInt < (0 : Int64).toInt ∨ (9999 : Int64).toInt < x15.toInt)) := hw
  obtain ⟨hP, hD⟩ : PD D A [] H := hPD
  refine lv_if_eq (tgt := 40) hx hb dX12_isDot_33 (by decide) (fun c21 => ?_) (fun c21 => ?_)
  · have c21 := ci_eq c21
    refine lv_iconst (v := 0) hx hb dX12_isDot_40 (by decide) ?_
    have hpo : ((0 : Int32).toInt = 1 ∧ 0 ≤ p1.toInt ∧ p1.toInt ≤ 4 ∧ 0 ≤ p2.toInt ∧ p2.toInt ≤ 7 ∧ 0 ≤ p3.toInt ∧ p3.toInt ≤ 9999) ∨ ((0 : Int32).toInt = 0 ∧ (p1.toInt < 0 ∨ 4 < p1.toInt ∨ p2.toInt < 0 ∨ 7 < p2.toInt ∨ p3.toInt < 0 ∨ 9999 < p3.toInt)) := (by omega)
    exact ret _ _ _ _ 0 () dX12_isDot_41 (by omega) hpo hP hD hS
  have c21 := ci_ne c21
  refine lv_iconst (v := 1) hx hb dX12_isDot_36 (by decide) ?_
  refine lv_goto (tgt := 41) hx hb dX12_isDot_37 (by decide) ?_
  have hpo : ((1 : Int32).toInt = 1 ∧ 0 ≤ p1.toInt ∧ p1.toInt ≤ 4 ∧ 0 ≤ p2.toInt ∧ p2.toInt ≤ 7 ∧ 0 ≤ p3.toInt ∧ p3.toInt ≤ 9999) ∨ ((1 : Int32).toInt = 0 ∧ (p1.toInt < 0 ∨ 4 < p1.toInt ∨ p2.toInt < 0 ∨ 7 < p2.toInt ∨ p3.toInt < 0 ∨ 9999 < p3.toInt)) := (by omega)
  exact ret _ _ _ _ 1 () dX12_isDot_41 (by omega) hpo hP hD hS
set_option maxHeartbeats 4000000 in
set_option maxRecDepth 100000 in
theorem k_X12_isShelf (l : Launch) (D : va_G) (κ : Nat → ClassId) (β : Nat) (sz : Nat) (p1 : Int32) : Met l yX12_isShelf wsX12_isShelf ({ frames := 1, cells := 0, slots := 0, locals := 25 } : Room) (PcK D κ β [] sz [.int p1]) (QiK D (fun (r : Int32) (u : Unit) => (r.toInt = 1 ∧ 0 ≤ p1.toInt ∧ p1.toInt ≤ 5) ∨ (r.toInt = 0 ∧ (p1.toInt < 0 ∨ 5 < p1.toInt))) (fun (u : Unit) => []) [] sz) 0 0 (va_A [] sz) := by
  refine ofK_z (cc := cX12_isShelf) (maxL := 1) (own := RX12) (by decide) rfl rfl (Nat.le_of_ble_eq_true rfl) ?_
  intro p e s m args below meth c Q A ls hsz hx hb hml hts hown hK hA hAB hP hD hl ret
  have hS : va_S A s.heap s.heap [] := va_S.rf
  have hl : lv_has ls 1 [(0, .int p1)] := hl
  have w0 := hts (.constantLong RX12 195 (5)) (List.mem_of_getElem? (i := 1) rfl)
  have l0 : (0 : Int64).toInt = 0 := by decide
  have l1 : (5 : Int64).toInt = 5 := by decide
  refine lv_iload_n hx hb dX12_isShelf_0 rfl (lv_at hl 0 rfl) ?_
  refine lv_i2l hx hb dX12_isShelf_1 rfl ?_
  refine lv_topl (fun x1 e2 => ?_)
  have h3 : x1.toInt = p1.toInt := cl_i2l e2
  refine lv_lconst (v := (0 : Int64)) hx hb dX12_isShelf_2 (by decide) ?_
  refine lv_ldc2 (v := (5 : Int64)) hx hb hown w0 dX12_isShelf_3 ?_
  refine kcm_i hA hAB hP hD hS [] rfl (fun _ => rfl) (fun hPc hDc => va_runS (As := [.long x1, .long (0 : Int64), .long (5 : Int64)]) (rest := []) ⟨hx, hb, hml, hown, hts⟩ (k_X12_within l D κ β s.heap.size x1 (0 : Int64) (5 : Int64)) (va_cwS 3 hts gX12_isShelf_X12_within rfl rfl rfl (by decide +kernel) ⟨Nat.le_of_ble_eq_true rfl, Nat.le_of_ble_eq_true rfl⟩) (pk_S hK hS hAB hPc hDc) rfl rfl hl.1 rfl (lv_room (Nat.le_of_ble_eq_true rfl)) dX12_isShelf_6 ⟨Nat.le_of_ble_eq_true rfl, Nat.le_of_ble_eq_true rfl⟩) (fun x4 u5 H locs hw hPD hS => ?_)
  have h6 : (x4.toInt = 1 ∧ (0 : Int64).toInt ≤ x1.toInt ∧ x1.toInt ≤ (5 : Int64).toInt) ∨ (x4.toInt = 0 ∧ (x1.toInt < (0 : Int64).toInt ∨ (5 : Int64).toInt < x1.toInt)) := hw
  obtain ⟨hP, hD⟩ : PD D A [] H := hPD
  have hpo : (x4.toInt = 1 ∧ 0 ≤ p1.toInt ∧ p1.toInt ≤ 5) ∨ (x4.toInt = 0 ∧ (p1.toInt < 0 ∨ 5 < p1.toInt)) := (by omega)
  exact ret _ _ _ _ x4 () dX12_isShelf_9 (by omega) hpo hP hD hS
set_option maxHeartbeats 4000000 in
set_option maxRecDepth 100000 in
theorem k_X12_isMap (l : Launch) (D : va_G) (κ : Nat → ClassId) (β : Nat) (a12 : Nat) (r12 : Nat → Nat) (v12_keptMany : Int32) (v12_done : Int32) (v12_sheets : Int32) (v12_holes : Int32) (v12_worms : Int32) (v12_laidMany : Int32) (v12_wanted : Int32) (v12_orderMany : Int32) (v12_firstOrder : Int32) (v12_lines : Int32) (v12_marks : Int32) (v12_dots : Int32) (v12_madeIn : Int32) (v12_bound : Int32) (v12_places : Int32) (v12_maps : Int32) (v12_tapeMany : Int32) (v12_stories : Int32) (v12_base : Int32) (v12_at : Int32) (v12_ends : Int32) (v12_fault : Int32) (v12_opened : Int32) (v12_bodies : Int32) (v12_ran : Int32) (v12_ownKind : Int32) (v12_ownNumber : Int32) (sz : Nat) (p1 : Int32) (i1 : Rg 0 40 v12_keptMany) (i2 : Rg 0 40 v12_done) (i3 : Rg 0 8 v12_sheets) (i4 : Rg 0 40 v12_holes) (i5 : Rg 0 40 v12_worms) (i6 : Rg 0 8 v12_laidMany) (i7 : Rg 0 8 v12_wanted) (i8 : Rg 0 20 v12_lines) (i9 : Rg 0 60 v12_marks) (i10 : Rg 0 40 v12_dots) (i11 : Rg 0 20 v12_places) (i12 : Rg 0 8 v12_maps) (i13 : Rg 0 120 v12_tapeMany) (i14 : Rg 0 6 v12_stories) (i15 : Rg 0 50 v12_bodies) (i16 : Rg 0 1000 v12_ran) (i17 : v12_done.toInt ≤ v12_keptMany.toInt) (i18 : v12_keptMany.toInt = 0) (i19 : v12_done.toInt = 0) (i20 : v12_sheets.toInt = 0) (i21 : v12_holes.toInt = 0) (i22 : v12_worms.toInt = 0) (i23 : v12_lines.toInt = 0) (i24 : v12_marks.toInt = 0) (i25 : v12_dots.toInt = 0) (i26 : v12_madeIn.toInt = 2001) (i27 : v12_places.toInt = 0) (i28 : v12_maps.toInt = 0) (i29 : v12_tapeMany.toInt = 0) (i30 : v12_stories.toInt = 0) (i31 : v12_bodies.toInt = 0) : Met l yX12_isMap wsX12_isMap ({ frames := 1, cells := 0, slots := 0, locals := 25 } : Room) (PcK D κ β [O12 a12 r12 v12_keptMany v12_done v12_sheets v12_holes v12_worms v12_laidMany v12_wanted v12_orderMany v12_firstOrder v12_lines v12_marks v12_dots v12_madeIn v12_bound v12_places v12_maps v12_tapeMany v12_stories v12_base v12_at v12_ends v12_fault v12_opened v12_bodies v12_ran v12_ownKind v12_ownNumber] sz [.ref a12, .int p1]) (QiK D (fun (r : Int32) (u : Unit) => (r.toInt = 1 ∧ 0 ≤ p1.toInt ∧ p1.toInt < v12_maps.toInt) ∨ (r.toInt = 0 ∧ (p1.toInt < 0 ∨ v12_maps.toInt ≤ p1.toInt))) (fun (u : Unit) => [O12 a12 r12 v12_keptMany v12_done v12_sheets v12_holes v12_worms v12_laidMany v12_wanted v12_orderMany v12_firstOrder v12_lines v12_marks v12_dots v12_madeIn v12_bound v12_places v12_maps v12_tapeMany v12_stories v12_base v12_at v12_ends v12_fault v12_opened v12_bodies v12_ran v12_ownKind v12_ownNumber]) [O12 a12 r12 v12_keptMany v12_done v12_sheets v12_holes v12_worms v12_laidMany v12_wanted v12_orderMany v12_firstOrder v12_lines v12_marks v12_dots v12_madeIn v12_bound v12_places v12_maps v12_tapeMany v12_stories v12_base v12_at v12_ends v12_fault v12_opened v12_bodies v12_ran v12_ownKind v12_ownNumber] sz) 0 0 (va_A [O12 a12 r12 v12_keptMany v12_done v12_sheets v12_holes v12_worms v12_laidMany v12_wanted v12_orderMany v12_firstOrder v12_lines v12_marks v12_dots v12_madeIn v12_bound v12_places v12_maps v12_tapeMany v12_stories v12_base v12_at v12_ends v12_fault v12_opened v12_bodies v12_ran v12_ownKind v12_ownNumber] sz) := by
  refine ofK_z (cc := cX12_isMap) (maxL := 2) (own := RX12) (by decide) rfl rfl (Nat.le_of_ble_eq_true rfl) ?_
  intro p e s m args below meth c Q A ls hsz hx hb hml hts hown hK hA hAB hP hD hl ret
  have hS : va_S A s.heap s.heap [] := va_S.rf
  have hl : lv_has ls 2 [(0, .ref a12), (1, .int p1)] := hl
  have w0 := hts (.fieldLink RX12 277 "OlderSkinModel" "maps" "I") (List.mem_of_getElem? (i := 1) rfl)
  have w1 := (fun w h => List.mem_cons_of_mem _ (List.mem_append_right _ h) : ∀ w ∈ u_ws RX12 TX12 63, w ∈ wsX12_isMap)
  have l0 : (0 : Int64).toInt = 0 := by decide
  have l1 : (1 : Int32).toInt = 1 := by decide
  have i12 : 0 ≤ v12_maps.toInt ∧ v12_maps.toInt ≤ 8 := i12
  refine lv_iload_n hx hb dX12_isMap_0 rfl (lv_at hl 1 rfl) ?_
  refine lv_i2l hx hb dX12_isMap_1 rfl ?_
  refine lv_topl (fun x1 e2 => ?_)
  have h3 : x1.toInt = p1.toInt := cl_i2l e2
  refine lv_lconst (v := (0 : Int64)) hx hb dX12_isMap_2 (by decide) ?_
  refine lv_aload_n hx hb dX12_isMap_3 rfl (lv_at hl 0 rfl) ?_
  refine va_get (D := D) (ci := 12) (v := .int v12_maps) (C := RX12) (T := TX12) (N := 63) hx hb hts w1 hown hK.1 hP 0 rfl rfl 38 (by decide) w0 (fun _ h9 => h9) rfl dX12_isMap_4 ?_
  refine lv_iconst (v := 1) hx hb dX12_isMap_7 (by decide) ?_
  refine lv_isub hx hb dX12_isMap_8 ?_
  refine lv_topi (fun x4 e5 => ?_)
  try have h6 : x4.toInt = v12_maps.toInt - (1 : Int32).toInt := ci_sub e5 (by omega) (by omega)
  refine lv_i2l hx hb dX12_isMap_9 rfl ?_
  refine lv_topl (fun x7 e8 => ?_)
  have h9 : x7.toInt = x4.toInt := cl_i2l e8
  refine kcm_i hA hAB hP hD hS [false] rfl (fun _ => rfl) (fun hPc hDc => va_runS (As := [.long x1, .long (0 : Int64), .long x7]) (rest := []) ⟨hx, hb, hml, hown, hts⟩ (k_X12_within l D κ β s.heap.size x1 (0 : Int64) x7) (va_cwS 3 hts gX12_isMap_X12_within rfl rfl rfl (by decide +kernel) ⟨Nat.le_of_ble_eq_true rfl, Nat.le_of_ble_eq_true rfl⟩) (pk_S hK hS hAB hPc hDc) rfl rfl hl.1 rfl (lv_room (Nat.le_of_ble_eq_true rfl)) dX12_isMap_10 ⟨Nat.le_of_ble_eq_true rfl, Nat.le_of_ble_eq_true rfl⟩) (fun x10 u11 H locs hw hPD hS => ?_)
  have h12 : (x10.toInt = 1 ∧ (0 : Int64).toInt ≤ x1.toInt ∧ x1.toInt ≤ x7.toInt) ∨ (x10.toInt = 0 ∧ (x1.toInt < (0 : Int64).toInt ∨ x7.toInt < x1.toInt)) := hw
  obtain ⟨hP, hD⟩ : PD D A [O12 a12 r12 v12_keptMany v12_done v12_sheets v12_holes v12_worms v12_laidMany v12_wanted v12_orderMany v12_firstOrder v12_lines v12_marks v12_dots v12_madeIn v12_bound v12_places v12_maps v12_tapeMany v12_stories v12_base v12_at v12_ends v12_fault v12_opened v12_bodies v12_ran v12_ownKind v12_ownNumber] H := hPD
  have hpo : (x10.toInt = 1 ∧ 0 ≤ p1.toInt ∧ p1.toInt < v12_maps.toInt) ∨ (x10.toInt = 0 ∧ (p1.toInt < 0 ∨ v12_maps.toInt ≤ p1.toInt)) := (by omega)
  exact ret _ _ _ _ x10 () dX12_isMap_13 (by omega) hpo hP hD hS
set_option maxHeartbeats 4000000 in
set_option maxRecDepth 100000 in
theorem k_X12_isStory (l : Launch) (D : va_G) (κ : Nat → ClassId) (β : Nat) (a12 : Nat) (r12 : Nat → Nat) (v12_keptMany : Int32) (v12_done : Int32) (v12_sheets : Int32) (v12_holes : Int32) (v12_worms : Int32) (v12_laidMany : Int32) (v12_wanted : Int32) (v12_orderMany : Int32) (v12_firstOrder : Int32) (v12_lines : Int32) (v12_marks : Int32) (v12_dots : Int32) (v12_madeIn : Int32) (v12_bound : Int32) (v12_places : Int32) (v12_maps : Int32) (v12_tapeMany : Int32) (v12_stories : Int32) (v12_base : Int32) (v12_at : Int32) (v12_ends : Int32) (v12_fault : Int32) (v12_opened : Int32) (v12_bodies : Int32) (v12_ran : Int32) (v12_ownKind : Int32) (v12_ownNumber : Int32) (sz : Nat) (p1 : Int32) (i1 : Rg 0 40 v12_keptMany) (i2 : Rg 0 40 v12_done) (i3 : Rg 0 8 v12_sheets) (i4 : Rg 0 40 v12_holes) (i5 : Rg 0 40 v12_worms) (i6 : Rg 0 8 v12_laidMany) (i7 : Rg 0 8 v12_wanted) (i8 : Rg 0 20 v12_lines) (i9 : Rg 0 60 v12_marks) (i10 : Rg 0 40 v12_dots) (i11 : Rg 0 20 v12_places) (i12 : Rg 0 8 v12_maps) (i13 : Rg 0 120 v12_tapeMany) (i14 : Rg 0 6 v12_stories) (i15 : Rg 0 50 v12_bodies) (i16 : Rg 0 1000 v12_ran) (i17 : v12_done.toInt ≤ v12_keptMany.toInt) (i18 : v12_keptMany.toInt = 0) (i19 : v12_done.toInt = 0) (i20 : v12_sheets.toInt = 0) (i21 : v12_holes.toInt = 0) (i22 : v12_worms.toInt = 0) (i23 : v12_lines.toInt = 0) (i24 : v12_marks.toInt = 0) (i25 : v12_dots.toInt = 0) (i26 : v12_madeIn.toInt = 2001) (i27 : v12_places.toInt = 0) (i28 : v12_maps.toInt = 0) (i29 : v12_tapeMany.toInt = 0) (i30 : v12_stories.toInt = 0) (i31 : v12_bodies.toInt = 0) : Met l yX12_isStory wsX12_isStory ({ frames := 1, cells := 0, slots := 0, locals := 25 } : Room) (PcK D κ β [O12 a12 r12 v12_keptMany v12_done v12_sheets v12_holes v12_worms v12_laidMany v12_wanted v12_orderMany v12_firstOrder v12_lines v12_marks v12_dots v12_madeIn v12_bound v12_places v12_maps v12_tapeMany v12_stories v12_base v12_at v12_ends v12_fault v12_opened v12_bodies v12_ran v12_ownKind v12_ownNumber] sz [.ref a12, .int p1]) (QiK D (fun (r : Int32) (u : Unit) => (r.toInt = 1 ∧ 0 ≤ p1.toInt ∧ p1.toInt < v12_stories.toInt) ∨ (r.toInt = 0 ∧ (p1.toInt < 0 ∨ v12_stories.toInt ≤ p1.toInt))) (fun (u : Unit) => [O12 a12 r12 v12_keptMany v12_done v12_sheets v12_holes v12_worms v12_laidMany v12_wanted v12_orderMany v12_firstOrder v12_lines v12_marks v12_dots v12_madeIn v12_bound v12_places v12_maps v12_tapeMany v12_stories v12_base v12_at v12_ends v12_fault v12_opened v12_bodies v12_ran v12_ownKind v12_ownNumber]) [O12 a12 r12 v12_keptMany v12_done v12_sheets v12_holes v12_worms v12_laidMany v12_wanted v12_orderMany v12_firstOrder v12_lines v12_marks v12_dots v12_madeIn v12_bound v12_places v12_maps v12_tapeMany v12_stories v12_base v12_at v12_ends v12_fault v12_opened v12_bodies v12_ran v12_ownKind v12_ownNumber] sz) 0 0 (va_A [O12 a12 r12 v12_keptMany v12_done v12_sheets v12_holes v12_worms v12_laidMany v12_wanted v12_orderMany v12_firstOrder v12_lines v12_marks v12_dots v12_madeIn v12_bound v12_places v12_maps v12_tapeMany v12_stories v12_base v12_at v12_ends v12_fault v12_opened v12_bodies v12_ran v12_ownKind v12_ownNumber] sz) := by
  refine ofK_z (cc := cX12_isStory) (maxL := 2) (own := RX12) (by decide) rfl rfl (Nat.le_of_ble_eq_true rfl) ?_
  intro p e s m args below meth c Q A ls hsz hx hb hml hts hown hK hA hAB hP hD hl ret
  have hS : va_S A s.heap s.heap [] := va_S.rf
  have hl : lv_has ls 2 [(0, .ref a12), (1, .int p1)] := hl
  have w0 := hts (.fieldLink RX12 342 "OlderSkinModel" "stories" "I") (List.mem_of_getElem? (i := 1) rfl)
  have w1 := (fun w h => List.mem_cons_of_mem _ (List.mem_append_right _ h) : ∀ w ∈ u_ws RX12 TX12 63, w ∈ wsX12_isStory)
  have l0 : (0 : Int64).toInt = 0 := by decide
  have l1 : (1 : Int32).toInt = 1 := by decide
  have i14 : 0 ≤ v12_stories.toInt ∧ v12_stories.toInt ≤ 6 := i14
  refine lv_iload_n hx hb dX12_isStory_0 rfl (lv_at hl 1 rfl) ?_
  refine lv_i2l hx hb dX12_isStory_1 rfl ?_
  refine lv_topl (fun x1 e2 => ?_)
  have h3 : x1.toInt = p1.toInt := cl_i2l e2
  refine lv_lconst (v := (0 : Int64)) hx hb dX12_isStory_2 (by decide) ?_
  refine lv_aload_n hx hb dX12_isStory_3 rfl (lv_at hl 0 rfl) ?_
  refine va_get (D := D) (ci := 12) (v := .int v12_stories) (C := RX12) (T := TX12) (N := 63) hx hb hts w1 hown hK.1 hP 0 rfl rfl 43 (by decide) w0 (fun _ h9 => h9) rfl dX12_isStory_4 ?_
  refine lv_iconst (v := 1) hx hb dX12_isStory_7 (by decide) ?_
  refine lv_isub hx hb dX12_isStory_8 ?_
  refine lv_topi (fun x4 e5 => ?_)
  try have h6 : x4.toInt = v12_stories.toInt - (1 : Int32).toInt := ci_sub e5 (by omega) (by omega)
  refine lv_i2l hx hb dX12_isStory_9 rfl ?_
  refine lv_topl (fun x7 e8 => ?_)
  have h9 : x7.toInt = x4.toInt := cl_i2l e8
  refine kcm_i hA hAB hP hD hS [false] rfl (fun _ => rfl) (fun hPc hDc => va_runS (As := [.long x1, .long (0 : Int64), .long x7]) (rest := []) ⟨hx, hb, hml, hown, hts⟩ (k_X12_within l D κ β s.heap.size x1 (0 : Int64) x7) (va_cwS 3 hts gX12_isStory_X12_within rfl rfl rfl (by decide +kernel) ⟨Nat.le_of_ble_eq_true rfl, Nat.le_of_ble_eq_true rfl⟩) (pk_S hK hS hAB hPc hDc) rfl rfl hl.1 rfl (lv_room (Nat.le_of_ble_eq_true rfl)) dX12_isStory_10 ⟨Nat.le_of_ble_eq_true rfl, Nat.le_of_ble_eq_true rfl⟩) (fun x10 u11 H locs hw hPD hS => ?_)
  have h12 : (x10.toInt = 1 ∧ (0 : Int64).toInt ≤ x1.toInt ∧ x1.toInt ≤ x7.toInt) ∨ (x10.toInt = 0 ∧ (x1.toInt < (0 : Int64).toInt ∨ x7.toInt < x1.toInt)) := hw
  obtain ⟨hP, hD⟩ : PD D A [O12 a12 r12 v12_keptMany v12_done v12_sheets v12_holes v12_worms v12_laidMany v12_wanted v12_orderMany v12_firstOrder v12_lines v12_marks v12_dots v12_madeIn v12_bound v12_places v12_maps v12_tapeMany v12_stories v12_base v12_at v12_ends v12_fault v12_opened v12_bodies v12_ran v12_ownKind v12_ownNumber] H := hPD
  have hpo : (x10.toInt = 1 ∧ 0 ≤ p1.toInt ∧ p1.toInt < v12_stories.toInt) ∨ (x10.toInt = 0 ∧ (p1.toInt < 0 ∨ v12_stories.toInt ≤ p1.toInt)) := (by omega)
  exact ret _ _ _ _ x10 () dX12_isStory_13 (by omega) hpo hP hD hS
set_option maxHeartbeats 4000000 in
set_option maxRecDepth 100000 in
theorem k_X12_isBody (l : Launch) (D : va_G) (κ : Nat → ClassId) (β : Nat) (a12 : Nat) (r12 : Nat → Nat) (v12_keptMany : Int32) (v12_done : Int32) (v12_sheets : Int32) (v12_holes : Int32) (v12_worms : Int32) (v12_laidMany : Int32) (v12_wanted : Int32) (v12_orderMany : Int32) (v12_firstOrder : Int32) (v12_lines : Int32) (v12_marks : Int32) (v12_dots : Int32) (v12_madeIn : Int32) (v12_bound : Int32) (v12_places : Int32) (v12_maps : Int32) (v12_tapeMany : Int32) (v12_stories : Int32) (v12_base : Int32) (v12_at : Int32) (v12_ends : Int32) (v12_fault : Int32) (v12_opened : Int32) (v12_bodies : Int32) (v12_ran : Int32) (v12_ownKind : Int32) (v12_ownNumber : Int32) (sz : Nat) (p1 : Int32) (i1 : Rg 0 40 v12_keptMany) (i2 : Rg 0 40 v12_done) (i3 : Rg 0 8 v12_sheets) (i4 : Rg 0 40 v12_holes) (i5 : Rg 0 40 v12_worms) (i6 : Rg 0 8 v12_laidMany) (i7 : Rg 0 8 v12_wanted) (i8 : Rg 0 20 v12_lines) (i9 : Rg 0 60 v12_marks) (i10 : Rg 0 40 v12_dots) (i11 : Rg 0 20 v12_places) (i12 : Rg 0 8 v12_maps) (i13 : Rg 0 120 v12_tapeMany) (i14 : Rg 0 6 v12_stories) (i15 : Rg 0 50 v12_bodies) (i16 : Rg 0 1000 v12_ran) (i17 : v12_done.toInt ≤ v12_keptMany.toInt) (i18 : v12_keptMany.toInt = 0) (i19 : v12_done.toInt = 0) (i20 : v12_sheets.toInt = 0) (i21 : v12_holes.toInt = 0) (i22 : v12_worms.toInt = 0) (i23 : v12_lines.toInt = 0) (i24 : v12_marks.toInt = 0) (i25 : v12_dots.toInt = 0) (i26 : v12_madeIn.toInt = 2001) (i27 : v12_places.toInt = 0) (i28 : v12_maps.toInt = 0) (i29 : v12_tapeMany.toInt = 0) (i30 : v12_stories.toInt = 0) (i31 : v12_bodies.toInt = 0) : Met l yX12_isBody wsX12_isBody ({ frames := 1, cells := 0, slots := 0, locals := 25 } : Room) (PcK D κ β [O12 a12 r12 v12_keptMany v12_done v12_sheets v12_holes v12_worms v12_laidMany v12_wanted v12_orderMany v12_firstOrder v12_lines v12_marks v12_dots v12_madeIn v12_bound v12_places v12_maps v12_tapeMany v12_stories v12_base v12_at v12_ends v12_fault v12_opened v12_bodies v12_ran v12_ownKind v12_ownNumber] sz [.ref a12, .int p1]) (QiK D (fun (r : Int32) (u : Unit) => (r.toInt = 1 ∧ 0 ≤ p1.toInt ∧ p1.toInt < v12_bodies.toInt) ∨ (r.toInt = 0 ∧ (p1.toInt < 0 ∨ v12_bodies.toInt ≤ p1.toInt))) (fun (u : Unit) => [O12 a12 r12 v12_keptMany v12_done v12_sheets v12_holes v12_worms v12_laidMany v12_wanted v12_orderMany v12_firstOrder v12_lines v12_marks v12_dots v12_madeIn v12_bound v12_places v12_maps v12_tapeMany v12_stories v12_base v12_at v12_ends v12_fault v12_opened v12_bodies v12_ran v12_ownKind v12_ownNumber]) [O12 a12 r12 v12_keptMany v12_done v12_sheets v12_holes v12_worms v12_laidMany v12_wanted v12_orderMany v12_firstOrder v12_lines v12_marks v12_dots v12_madeIn v12_bound v12_places v12_maps v12_tapeMany v12_stories v12_base v12_at v12_ends v12_fault v12_opened v12_bodies v12_ran v12_ownKind v12_ownNumber] sz) 0 0 (va_A [O12 a12 r12 v12_keptMany v12_done v12_sheets v12_holes v12_worms v12_laidMany v12_wanted v12_orderMany v12_firstOrder v12_lines v12_marks v12_dots v12_madeIn v12_bound v12_places v12_maps v12_tapeMany v12_stories v12_base v12_at v12_ends v12_fault v12_opened v12_bodies v12_ran v12_ownKind v12_ownNumber] sz) := by
  refine ofK_z (cc := cX12_isBody) (maxL := 2) (own := RX12) (by decide) rfl rfl (Nat.le_of_ble_eq_true rfl) ?_
  intro p e s m args below meth c Q A ls hsz hx hb hml hts hown hK hA hAB hP hD hl ret
  have hS : va_S A s.heap s.heap [] := va_S.rf
  have hl : lv_has ls 2 [(0, .ref a12), (1, .int p1)] := hl
  have w0 := hts (.fieldLink RX12 379 "OlderSkinModel" "bodies" "I") (List.mem_of_getElem? (i := 1) rfl)
  have w1 := (fun w h => List.mem_cons_of_mem _ (List.mem_append_right _ h) : ∀ w ∈ u_ws RX12 TX12 63, w ∈ wsX12_isBody)
  have l0 : (0 : Int64).toInt = 0 := by decide
  have l1 : (1 : Int32).toInt = 1 := by decide
  have i15 : 0 ≤ v12_bodies.toInt ∧ v12_bodies.toInt ≤ 50 := i15
  refine lv_iload_n hx hb dX12_isBody_0 rfl (lv_at hl 1 rfl) ?_
  refine lv_i2l hx hb dX12_isBody_1 rfl ?_
  refine lv_topl (fun x1 e2 => ?_)
  have h3 : x1.toInt = p1.toInt := cl_i2l e2
  refine lv_lconst (v := (0 : Int64)) hx hb dX12_isBody_2 (by decide) ?_
  refine lv_aload_n hx hb dX12_isBody_3 rfl (lv_at hl 0 rfl) ?_
  refine va_get (D := D) (ci := 12) (v := .int v12_bodies) (C := RX12) (T := TX12) (N := 63) hx hb hts w1 hown hK.1 hP 0 rfl rfl 53 (by decide) w0 (fun _ h9 => h9) rfl dX12_isBody_4 ?_
  refine lv_iconst (v := 1) hx hb dX12_isBody_7 (by decide) ?_
  refine lv_isub hx hb dX12_isBody_8 ?_
  refine lv_topi (fun x4 e5 => ?_)
  try have h6 : x4.toInt = v12_bodies.toInt - (1 : Int32).toInt := ci_sub e5 (by omega) (by omega)
  refine lv_i2l hx hb dX12_isBody_9 rfl ?_
  refine lv_topl (fun x7 e8 => ?_)
  have h9 : x7.toInt = x4.toInt := cl_i2l e8
  refine kcm_i hA hAB hP hD hS [false] rfl (fun _ => rfl) (fun hPc hDc => va_runS (As := [.long x1, .long (0 : Int64), .long x7]) (rest := []) ⟨hx, hb, hml, hown, hts⟩ (k_X12_within l D κ β s.heap.size x1 (0 : Int64) x7) (va_cwS 3 hts gX12_isBody_X12_within rfl rfl rfl (by decide +kernel) ⟨Nat.le_of_ble_eq_true rfl, Nat.le_of_ble_eq_true rfl⟩) (pk_S hK hS hAB hPc hDc) rfl rfl hl.1 rfl (lv_room (Nat.le_of_ble_eq_true rfl)) dX12_isBody_10 ⟨Nat.le_of_ble_eq_true rfl, Nat.le_of_ble_eq_true rfl⟩) (fun x10 u11 H locs hw hPD hS => ?_)
  have h12 : (x10.toInt = 1 ∧ (0 : Int64).toInt ≤ x1.toInt ∧ x1.toInt ≤ x7.toInt) ∨ (x10.toInt = 0 ∧ (x1.toInt < (0 : Int64).toInt ∨ x7.toInt < x1.toInt)) := hw
  obtain ⟨hP, hD⟩ : PD D A [O12 a12 r12 v12_keptMany v12_done v12_sheets v12_holes v12_worms v12_laidMany v12_wanted v12_orderMany v12_firstOrder v12_lines v12_marks v12_dots v12_madeIn v12_bound v12_places v12_maps v12_tapeMany v12_stories v12_base v12_at v12_ends v12_fault v12_opened v12_bodies v12_ran v12_ownKind v12_ownNumber] H := hPD
  have hpo : (x10.toInt = 1 ∧ 0 ≤ p1.toInt ∧ p1.toInt < v12_bodies.toInt) ∨ (x10.toInt = 0 ∧ (p1.toInt < 0 ∨ v12_bodies.toInt ≤ p1.toInt)) := (by omega)
  exact ret _ _ _ _ x10 () dX12_isBody_13 (by omega) hpo hP hD hS
set_option maxHeartbeats 4000000 in
set_option maxRecDepth 100000 in
theorem k_X12_sheet (l : Launch) (D : va_G) (κ : Nat → ClassId) (β : Nat) (a12 : Nat) (r12 : Nat → Nat) (v12_keptMany : Int32) (v12_done : Int32) (v12_sheets : Int32) (v12_holes : Int32) (v12_worms : Int32) (v12_laidMany : Int32) (v12_wanted : Int32) (v12_orderMany : Int32) (v12_firstOrder : Int32) (v12_lines : Int32) (v12_marks : Int32) (v12_dots : Int32) (v12_madeIn : Int32) (v12_bound : Int32) (v12_places : Int32) (v12_maps : Int32) (v12_tapeMany : Int32) (v12_stories : Int32) (v12_base : Int32) (v12_at : Int32) (v12_ends : Int32) (v12_fault : Int32) (v12_opened : Int32) (v12_bodies : Int32) (v12_ran : Int32) (v12_ownKind : Int32) (v12_ownNumber : Int32) (f12_may : Nat → Int32) (sz : Nat) (p1 : Int32) (i1 : Rg 0 40 v12_keptMany) (i2 : Rg 0 40 v12_done) (i3 : Rg 0 8 v12_sheets) (i4 : Rg 0 40 v12_holes) (i5 : Rg 0 40 v12_worms) (i6 : Rg 0 8 v12_laidMany) (i7 : Rg 0 8 v12_wanted) (i8 : Rg 0 20 v12_lines) (i9 : Rg 0 60 v12_marks) (i10 : Rg 0 40 v12_dots) (i11 : Rg 0 20 v12_places) (i12 : Rg 0 8 v12_maps) (i13 : Rg 0 120 v12_tapeMany) (i14 : Rg 0 6 v12_stories) (i15 : Rg 0 50 v12_bodies) (i16 : Rg 0 1000 v12_ran) (i17 : v12_done.toInt ≤ v12_keptMany.toInt) (i18 : v12_keptMany.toInt = 0) (i19 : v12_done.toInt = 0) (i20 : v12_sheets.toInt = 0) (i21 : v12_holes.toInt = 0) (i22 : v12_worms.toInt = 0) (i23 : v12_lines.toInt = 0) (i24 : v12_marks.toInt = 0) (i25 : v12_dots.toInt = 0) (i26 : v12_madeIn.toInt = 2001) (i27 : v12_places.toInt = 0) (i28 : v12_maps.toInt = 0) (i29 : v12_tapeMany.toInt = 0) (i30 : v12_stories.toInt = 0) (i31 : v12_bodies.toInt = 0) : Met l yX12_sheet wsX12_sheet ({ frames := 2, cells := 0, slots := 0, locals := 45 } : Room) (PcK D κ β [O12 a12 r12 v12_keptMany v12_done v12_sheets v12_holes v12_worms v12_laidMany v12_wanted v12_orderMany v12_firstOrder v12_lines v12_marks v12_dots v12_madeIn v12_bound v12_places v12_maps v12_tapeMany v12_stories v12_base v12_at v12_ends v12_fault v12_opened v12_bodies v12_ran v12_ownKind v12_ownNumber, (cI κ (r12 0) 55 f12_may)] sz [.ref a12, .int p1]) (QiK D (fun (r : Int32) (u : Int32 × (Nat → Int32)) => (0 ≤ u.1.toInt ∧ u.1.toInt ≤ 8) ∧ ((¬ (0 ≤ p1.toInt ∧ p1.toInt ≤ 2000) ∧ r.toInt = -1 ∧ u.1.toInt = v12_sheets.toInt) ∨ ((0 ≤ p1.toInt ∧ p1.toInt ≤ 2000) ∧ v12_sheets.toInt = 8 ∧ r.toInt = -3 ∧ u.1.toInt = v12_sheets.toInt) ∨ ((0 ≤ p1.toInt ∧ p1.toInt ≤ 2000) ∧ v12_sheets.toInt < 8 ∧ r.toInt = v12_sheets.toInt ∧ u.1.toInt = v12_sheets.toInt + 1))) (fun (u : Int32 × (Nat → Int32)) => [O12 a12 r12 v12_keptMany v12_done u.1 v12_holes v12_worms v12_laidMany v12_wanted v12_orderMany v12_firstOrder v12_lines v12_marks v12_dots v12_madeIn v12_bound v12_places v12_maps v12_tapeMany v12_stories v12_base v12_at v12_ends v12_fault v12_opened v12_bodies v12_ran v12_ownKind v12_ownNumber, (cI κ (r12 0) 55 u.2)]) [O12 a12 r12 v12_keptMany v12_done v12_sheets v12_holes v12_worms v12_laidMany v12_wanted v12_orderMany v12_firstOrder v12_lines v12_marks v12_dots v12_madeIn v12_bound v12_places v12_maps v12_tapeMany v12_stories v12_base v12_at v12_ends v12_fault v12_opened v12_bodies v12_ran v12_ownKind v12_ownNumber, (cI κ (r12 0) 55 f12_may)] sz) 0 0 (va_A [O12 a12 r12 v12_keptMany v12_done v12_sheets v12_holes v12_worms v12_laidMany v12_wanted v12_orderMany v12_firstOrder v12_lines v12_marks v12_dots v12_madeIn v12_bound v12_places v12_maps v12_tapeMany v12_stories v12_base v12_at v12_ends v12_fault v12_opened v12_bodies v12_ran v12_ownKind v12_ownNumber, (cI κ (r12 0) 55 f12_may)] sz) := by
  refine ofK_i (cc := cX12_sheet) (maxL := 2) (own := RX12) (by decide) rfl rfl (Nat.le_of_ble_eq_true rfl) ?_
  intro p e s m args below meth c Q A ls hsz hx hb hml hts hown hK hA hAB hP hD hl ret
  have hS : va_S A s.heap s.heap [] := va_S.rf
  have hl : lv_has ls 2 [(0, .ref a12), (1, .int p1)] := hl
  have w0 := hts (.fieldLink RX12 133 "OlderSkinModel" "sheets" "I") (List.mem_of_getElem? (i := 1) rfl)
  have w1 := (fun w h => List.mem_cons_of_mem _ (List.mem_append_right _ h) : ∀ w ∈ u_ws RX12 TX12 63, w ∈ wsX12_sheet)
  have w2 := hts (.fieldLink RX12 9 "OlderSkinModel" "may" "[I") (List.mem_of_getElem? (i := 2) rfl)
  have l0 : (0 : Int32).toInt = 0 := by decide
  have l1 : (8 : Int32).toInt = 8 := by decide
  have l2 : (47 : Int32).toInt = 47 := by decide
  have l3 : (1 : Int32).toInt = 1 := by decide
  have l4 : ((-3) : Int32).toInt = -3 := by decide
  have l5 : ((-1) : Int32).toInt = -1 := by decide
  have i3 : 0 ≤ v12_sheets.toInt ∧ v12_sheets.toInt ≤ 8 := i3
  refine lv_iload_n hx hb dX12_sheet_0 rfl (lv_at hl 1 rfl) ?_
  refine kcm_i hA hAB hP hD hS [false, false] rfl (fun _ => rfl) (fun hPc hDc => va_runS (As := [.int p1]) (rest := []) ⟨hx, hb, hml, hown, hts⟩ (k_X12_isYear l D κ β s.heap.size p1) (va_cwS 1 hts gX12_sheet_X12_isYear rfl rfl rfl (by decide +kernel) ⟨Nat.le_of_ble_eq_true rfl, Nat.le_of_ble_eq_true rfl⟩) (pk_S hK hS hAB hPc hDc) rfl rfl hl.1 rfl (lv_room (Nat.le_of_ble_eq_true rfl)) dX12_sheet_1 ⟨Nat.le_of_ble_eq_true rfl, Nat.le_of_ble_eq_true rfl⟩) (fun x1 u2 H locs hw hPD hS => ?_)
  have h3 : (x1.toInt = 1 ∧ 0 ≤ p1.toInt ∧ p1.toInt ≤ 2000) ∨ (x1.toInt = 0 ∧ (p1.toInt < 0 ∨ 2000 < p1.toInt)) := hw
  obtain ⟨hP, hD⟩ : PD D A [O12 a12 r12 v12_keptMany v12_done v12_sheets v12_holes v12_worms v12_laidMany v12_wanted v12_orderMany v12_firstOrder v12_lines v12_marks v12_dots v12_madeIn v12_bound v12_places v12_maps v12_tapeMany v12_stories v12_base v12_at v12_ends v12_fault v12_opened v12_bodies v12_ran v12_ownKind v12_ownNumber, (cI κ (r12 0) 55 f12_may)] H := hPD
  refine lv_if_ne (tgt := 9) hx hb dX12_sheet_4 (by decide) (fun c4 => ?_) (fun c4 => ?_)
  · have c4 := ci_ne c4
    refine lv_aload_n hx hb dX12_sheet_9 rfl (lv_at hl 0 rfl) ?_
    refine va_get (D := D) (ci := 12) (v := .int v12_sheets) (C := RX12) (T := TX12) (N := 63) hx hb hts w1 hown hK.1 hP 0 rfl rfl 6 (by decide) w0 (fun _ h9 => h9) rfl dX12_sheet_10 ?_
    refine lv_bipush (v := 8) hx hb dX12_sheet_13 (by decide) ?_
    refine lv_icmp_ne (tgt := 21) hx hb dX12_sheet_15 (by decide) (fun c5 => ?_) (fun c5 => ?_)
    · have c5 := ci_ne c5
      refine lv_aload_n hx hb dX12_sheet_21 rfl (lv_at hl 0 rfl) ?_
      refine va_get (D := D) (ci := 12) (v := .ref (r12 0)) (C := RX12) (T := TX12) (N := 63) hx hb hts w1 hown hK.1 hP 0 rfl rfl 0 (by decide) w2 (fun _ h9 => h9) rfl dX12_sheet_22 ?_
      refine lv_bipush (v := 47) hx hb dX12_sheet_25 (by decide) ?_
      refine lv_aload_n hx hb dX12_sheet_27 rfl (lv_at hl 0 rfl) ?_
      refine va_get (D := D) (ci := 12) (v := .int v12_sheets) (C := RX12) (T := TX12) (N := 63) hx hb hts w1 hown hK.1 hP 0 rfl rfl 6 (by decide) w0 (fun _ h9 => h9) rfl dX12_sheet_28 ?_
      refine lv_iadd hx hb dX12_sheet_31 ?_
      refine lv_topi (fun x6 e7 => ?_)
      try have h8 : x6.toInt = (47 : Int32).toInt + v12_sheets.toInt := ci_add e7 (by omega) (by omega)
      refine lv_iload_n hx hb dX12_sheet_32 rfl (lv_at hl 1 rfl) ?_
      refine va_iast hx hb hK.1 hP hD hS 1 1 rfl rfl (i := x6) (ix (by omega) (by omega)) dX12_sheet_33 (fun H locs hP hD hS => ?_)
      obtain ⟨g9, e10⟩ : ∃ y : Nat → Int32, y = upd f12_may x6.toNatClampNeg p1 := ⟨_, rfl⟩
      rw [← e10] at hP hD
      obtain ⟨hP, hD⟩ : PD D A [O12 a12 r12 v12_keptMany v12_done v12_sheets v12_holes v12_worms v12_laidMany v12_wanted v12_orderMany v12_firstOrder v12_lines v12_marks v12_dots v12_madeIn v12_bound v12_places v12_maps v12_tapeMany v12_stories v12_base v12_at v12_ends v12_fault v12_opened v12_bodies v12_ran v12_ownKind v12_ownNumber, (cI κ (r12 0) 55 g9)] H := ⟨hP, hD⟩
      refine lv_aload_n hx hb dX12_sheet_34 rfl (lv_at hl 0 rfl) ?_
      refine lv_dup hx hb dX12_sheet_35 rfl ?_
      refine va_get (D := D) (ci := 12) (v := .int v12_sheets) (C := RX12) (T := TX12) (N := 63) hx hb hts w1 hown hK.1 hP 0 rfl rfl 6 (by decide) w0 (fun _ h9 => h9) rfl dX12_sheet_36 ?_
      refine lv_iconst (v := 1) hx hb dX12_sheet_39 (by decide) ?_
      refine lv_iadd hx hb dX12_sheet_40 ?_
      refine lv_topi (fun x11 e12 => ?_)
      try have h13 : x11.toInt = v12_sheets.toInt + (1 : Int32).toInt := ci_add e12 (by omega) (by omega)
      refine va_put (D := D) (ci := 12) (v := .int x11) (ty := .int) (C := RX12) (T := TX12) (N := 63) hx hb hts w1 tyX12 tyX12_ok nmX12 hown hK.1 hP hD hS 0 rfl rfl 6 (by decide) w0 (fun _ h9 => h9) rfl (by decide +kernel) rfl rfl (Nat.le_of_ble_eq_true rfl) dX12_sheet_41 (fun H locs hP hD hS => ?_)
      obtain ⟨hP, hD⟩ : PD D A [O12 a12 r12 v12_keptMany v12_done x11 v12_holes v12_worms v12_laidMany v12_wanted v12_orderMany v12_firstOrder v12_lines v12_marks v12_dots v12_madeIn v12_bound v12_places v12_maps v12_tapeMany v12_stories v12_base v12_at v12_ends v12_fault v12_opened v12_bodies v12_ran v12_ownKind v12_ownNumber, (cI κ (r12 0) 55 g9)] H := ⟨hP, hD⟩
      have h14 : 0 ≤ x11.toInt ∧ x11.toInt ≤ 8 := by omega
      refine lv_aload_n hx hb dX12_sheet_44 rfl (lv_at hl 0 rfl) ?_
      refine va_get (D := D) (ci := 12) (v := .int x11) (C := RX12) (T := TX12) (N := 63) hx hb hts w1 hown hK.1 hP 0 rfl rfl 6 (by decide) w0 (fun _ h9 => h9) rfl dX12_sheet_45 ?_
      refine lv_iconst (v := 1) hx hb dX12_sheet_48 (by decide) ?_
      refine lv_isub hx hb dX12_sheet_49 ?_
      refine lv_topi (fun x15 e16 => ?_)
      try have h17 : x15.toInt = x11.toInt - (1 : Int32).toInt := ci_sub e16 (by omega) (by omega)
      have hpo : (0 ≤ x11.toInt ∧ x11.toInt ≤ 8) ∧ ((¬ (0 ≤ p1.toInt ∧ p1.toInt ≤ 2000) ∧ x15.toInt = -1 ∧ x11.toInt = v12_sheets.toInt) ∨ ((0 ≤ p1.toInt ∧ p1.toInt ≤ 2000) ∧ v12_sheets.toInt = 8 ∧ x15.toInt = -3 ∧ x11.toInt = v12_sheets.toInt) ∨ ((0 ≤ p1.toInt ∧ p1.toInt ≤ 2000) ∧ v12_sheets.toInt < 8 ∧ x15.toInt = v12_sheets.toInt ∧ x11.toInt = v12_sheets.toInt + 1)) := ⟨h14, (by omega)⟩
      exact ret _ _ _ _ x15 (x11, g9) dX12_sheet_50 hpo hP hD hS
    have c5 := ci_eq c5
    refine lv_bipush (v := (-3)) hx hb dX12_sheet_18 (by decide) ?_
    have hpo : (0 ≤ v12_sheets.toInt ∧ v12_sheets.toInt ≤ 8) ∧ ((¬ (0 ≤ p1.toInt ∧ p1.toInt ≤ 2000) ∧ ((-3) : Int32).toInt = -1 ∧ v12_sheets.toInt = v12_sheets.toInt) ∨ ((0 ≤ p1.toInt ∧ p1.toInt ≤ 2000) ∧ v12_sheets.toInt = 8 ∧ ((-3) : Int32).toInt = -3 ∧ v12_sheets.toInt = v12_sheets.toInt) ∨ ((0 ≤ p1.toInt ∧ p1.toInt ≤ 2000) ∧ v12_sheets.toInt < 8 ∧ ((-3) : Int32).toInt = v12_sheets.toInt ∧ v12_sheets.toInt = v12_sheets.toInt + 1)) := ⟨i3, (by omega)⟩
    exact ret _ _ _ _ (-3) (v12_sheets, f12_may) dX12_sheet_20 hpo hP hD hS
  have c4 := ci_eq c4
  refine lv_iconst (v := (-1)) hx hb dX12_sheet_7 (by decide) ?_
  have hpo : (0 ≤ v12_sheets.toInt ∧ v12_sheets.toInt ≤ 8) ∧ ((¬ (0 ≤ p1.toInt ∧ p1.toInt ≤ 2000) ∧ ((-1) : Int32).toInt = -1 ∧ v12_sheets.toInt = v12_sheets.toInt) ∨ ((0 ≤ p1.toInt ∧ p1.toInt ≤ 2000) ∧ v12_sheets.toInt = 8 ∧ ((-1) : Int32).toInt = -3 ∧ v12_sheets.toInt = v12_sheets.toInt) ∨ ((0 ≤ p1.toInt ∧ p1.toInt ≤ 2000) ∧ v12_sheets.toInt < 8 ∧ ((-1) : Int32).toInt = v12_sheets.toInt ∧ v12_sheets.toInt = v12_sheets.toInt + 1)) := ⟨i3, (by omega)⟩
  exact ret _ _ _ _ (-1) (v12_sheets, f12_may) dX12_sheet_8 hpo hP hD hS
set_option maxHeartbeats 4000000 in
set_option maxRecDepth 100000 in
theorem k_X12_becomes (l : Launch) (D : va_G) (κ : Nat → ClassId) (β : Nat) (a12 : Nat) (r12 : Nat → Nat) (v12_keptMany : Int32) (v12_done : Int32) (v12_sheets : Int32) (v12_holes : Int32) (v12_worms : Int32) (v12_laidMany : Int32) (v12_wanted : Int32) (v12_orderMany : Int32) (v12_firstOrder : Int32) (v12_lines : Int32) (v12_marks : Int32) (v12_dots : Int32) (v12_madeIn : Int32) (v12_bound : Int32) (v12_places : Int32) (v12_maps : Int32) (v12_tapeMany : Int32) (v12_stories : Int32) (v12_base : Int32) (v12_at : Int32) (v12_ends : Int32) (v12_fault : Int32) (v12_opened : Int32) (v12_bodies : Int32) (v12_ran : Int32) (v12_ownKind : Int32) (v12_ownNumber : Int32) (sz : Nat) (p1 : Int32) (p2 : Int32) (i1 : Rg 0 40 v12_keptMany) (i2 : Rg 0 40 v12_done) (i3 : Rg 0 8 v12_sheets) (i4 : Rg 0 40 v12_holes) (i5 : Rg 0 40 v12_worms) (i6 : Rg 0 8 v12_laidMany) (i7 : Rg 0 8 v12_wanted) (i8 : Rg 0 20 v12_lines) (i9 : Rg 0 60 v12_marks) (i10 : Rg 0 40 v12_dots) (i11 : Rg 0 20 v12_places) (i12 : Rg 0 8 v12_maps) (i13 : Rg 0 120 v12_tapeMany) (i14 : Rg 0 6 v12_stories) (i15 : Rg 0 50 v12_bodies) (i16 : Rg 0 1000 v12_ran) (i17 : v12_done.toInt ≤ v12_keptMany.toInt) (i18 : (1 : Int) ≤ 0) : Met l yX12_becomes wsX12_becomes ({ frames := 1, cells := 0, slots := 0, locals := 30 } : Room) (PcK D κ β [O12 a12 r12 v12_keptMany v12_done v12_sheets v12_holes v12_worms v12_laidMany v12_wanted v12_orderMany v12_firstOrder v12_lines v12_marks v12_dots v12_madeIn v12_bound v12_places v12_maps v12_tapeMany v12_stories v12_base v12_at v12_ends v12_fault v12_opened v12_bodies v12_ran v12_ownKind v12_ownNumber] sz [.ref a12, .int p1, .int p2]) (QiK D (fun (r : Int32) (u : Unit) => True) (fun (u : Unit) => [O12 a12 r12 v12_keptMany v12_done v12_sheets v12_holes v12_worms v12_laidMany v12_wanted v12_orderMany v12_firstOrder v12_lines v12_marks v12_dots v12_madeIn v12_bound v12_places v12_maps v12_tapeMany v12_stories v12_base v12_at v12_ends v12_fault v12_opened v12_bodies v12_ran v12_ownKind v12_ownNumber]) [O12 a12 r12 v12_keptMany v12_done v12_sheets v12_holes v12_worms v12_laidMany v12_wanted v12_orderMany v12_firstOrder v12_lines v12_marks v12_dots v12_madeIn v12_bound v12_places v12_maps v12_tapeMany v12_stories v12_base v12_at v12_ends v12_fault v12_opened v12_bodies v12_ran v12_ownKind v12_ownNumber] sz) 0 0 (va_A [O12 a12 r12 v12_keptMany v12_done v12_sheets v12_holes v12_worms v12_laidMany v12_wanted v12_orderMany v12_firstOrder v12_lines v12_marks v12_dots v12_madeIn v12_bound v12_places v12_maps v12_tapeMany v12_stories v12_base v12_at v12_ends v12_fault v12_opened v12_bodies v12_ran v12_ownKind v12_ownNumber] sz) := by
  refine ofK_i (cc := cX12_becomes) (maxL := 5) (own := RX12) (by decide) rfl rfl (Nat.le_of_ble_eq_true rfl) ?_
  intro p e s m args below meth c Q A ls hsz hx hb hml hts hown hK hA hAB hP hD hl ret
  have hS : va_S A s.heap s.heap [] := va_S.rf
  have hl : lv_has ls 5 [(0, .ref a12), (1, .int p1), (2, .int p2)] := hl
  have i1 : 0 ≤ v12_keptMany.toInt ∧ v12_keptMany.toInt ≤ 40 := i1
  have i2 : 0 ≤ v12_done.toInt ∧ v12_done.toInt ≤ 40 := i2
  exfalso
  omega
set_option maxHeartbeats 4000000 in
set_option maxRecDepth 100000 in
theorem k_X12_undo (l : Launch) (D : va_G) (κ : Nat → ClassId) (β : Nat) (a12 : Nat) (r12 : Nat → Nat) (v12_keptMany : Int32) (v12_done : Int32) (v12_sheets : Int32) (v12_holes : Int32) (v12_worms : Int32) (v12_laidMany : Int32) (v12_wanted : Int32) (v12_orderMany : Int32) (v12_firstOrder : Int32) (v12_lines : Int32) (v12_marks : Int32) (v12_dots : Int32) (v12_madeIn : Int32) (v12_bound : Int32) (v12_places : Int32) (v12_maps : Int32) (v12_tapeMany : Int32) (v12_stories : Int32) (v12_base : Int32) (v12_at : Int32) (v12_ends : Int32) (v12_fault : Int32) (v12_opened : Int32) (v12_bodies : Int32) (v12_ran : Int32) (v12_ownKind : Int32) (v12_ownNumber : Int32) (sz : Nat) (i1 : Rg 0 40 v12_keptMany) (i2 : Rg 0 40 v12_done) (i3 : Rg 0 8 v12_sheets) (i4 : Rg 0 40 v12_holes) (i5 : Rg 0 40 v12_worms) (i6 : Rg 0 8 v12_laidMany) (i7 : Rg 0 8 v12_wanted) (i8 : Rg 0 20 v12_lines) (i9 : Rg 0 60 v12_marks) (i10 : Rg 0 40 v12_dots) (i11 : Rg 0 20 v12_places) (i12 : Rg 0 8 v12_maps) (i13 : Rg 0 120 v12_tapeMany) (i14 : Rg 0 6 v12_stories) (i15 : Rg 0 50 v12_bodies) (i16 : Rg 0 1000 v12_ran) (i17 : v12_done.toInt ≤ v12_keptMany.toInt) (i18 : v12_keptMany.toInt = 0) (i19 : v12_done.toInt = 0) (i20 : v12_sheets.toInt = 0) (i21 : v12_holes.toInt = 0) (i22 : v12_worms.toInt = 0) (i23 : v12_lines.toInt = 0) (i24 : v12_marks.toInt = 0) (i25 : v12_dots.toInt = 0) (i26 : v12_madeIn.toInt = 2001) (i27 : v12_places.toInt = 0) (i28 : v12_maps.toInt = 0) (i29 : v12_tapeMany.toInt = 0) (i30 : v12_stories.toInt = 0) (i31 : v12_bodies.toInt = 0) : Met l yX12_undo wsX12_undo ({ frames := 0, cells := 0, slots := 0, locals := 0 } : Room) (PcK D κ β [O12 a12 r12 v12_keptMany v12_done v12_sheets v12_holes v12_worms v12_laidMany v12_wanted v12_orderMany v12_firstOrder v12_lines v12_marks v12_dots v12_madeIn v12_bound v12_places v12_maps v12_tapeMany v12_stories v12_base v12_at v12_ends v12_fault v12_opened v12_bodies v12_ran v12_ownKind v12_ownNumber] sz [.ref a12]) (QiK D (fun (r : Int32) (u : Unit) => r.toInt = -5) (fun (u : Unit) => [O12 a12 r12 v12_keptMany v12_done v12_sheets v12_holes v12_worms v12_laidMany v12_wanted v12_orderMany v12_firstOrder v12_lines v12_marks v12_dots v12_madeIn v12_bound v12_places v12_maps v12_tapeMany v12_stories v12_base v12_at v12_ends v12_fault v12_opened v12_bodies v12_ran v12_ownKind v12_ownNumber]) [O12 a12 r12 v12_keptMany v12_done v12_sheets v12_holes v12_worms v12_laidMany v12_wanted v12_orderMany v12_firstOrder v12_lines v12_marks v12_dots v12_madeIn v12_bound v12_places v12_maps v12_tapeMany v12_stories v12_base v12_at v12_ends v12_fault v12_opened v12_bodies v12_ran v12_ownKind v12_ownNumber] sz) 0 0 (va_A [O12 a12 r12 v12_keptMany v12_done v12_sheets v12_holes v12_worms v12_laidMany v12_wanted v12_orderMany v12_firstOrder v12_lines v12_marks v12_dots v12_madeIn v12_bound v12_places v12_maps v12_tapeMany v12_stories v12_base v12_at v12_ends v12_fault v12_opened v12_bodies v12_ran v12_ownKind v12_ownNumber] sz) := by
  refine ofK_i (cc := cX12_undo) (maxL := 1) (own := RX12) (by decide) rfl rfl (Nat.le_of_ble_eq_true rfl) ?_
  intro p e s m args below meth c Q A ls hsz hx hb hml hts hown hK hA hAB hP hD hl ret
  have hS : va_S A s.heap s.heap [] := va_S.rf
  have hl : lv_has ls 1 [(0, .ref a12)] := hl
  have w0 := hts (.fieldLink RX12 127 "OlderSkinModel" "done" "I") (List.mem_of_getElem? (i := 1) rfl)
  have w1 := (fun w h => List.mem_cons_of_mem _ (List.mem_append_right _ h) : ∀ w ∈ u_ws RX12 TX12 63, w ∈ wsX12_undo)
  have l0 : (0 : Int32).toInt = 0 := by decide
  have l1 : ((-5) : Int32).toInt = -5 := by decide
  have i1 : 0 ≤ v12_keptMany.toInt ∧ v12_keptMany.toInt ≤ 40 := i1
  have i2 : 0 ≤ v12_done.toInt ∧ v12_done.toInt ≤ 40 := i2
  refine lv_aload_n hx hb dX12_undo_0 rfl (lv_at hl 0 rfl) ?_
  refine va_get (D := D) (ci := 12) (v := .int v12_done) (C := RX12) (T := TX12) (N := 63) hx hb hts w1 hown hK.1 hP 0 rfl rfl 5 (by decide) w0 (fun _ h9 => h9) rfl dX12_undo_1 ?_
  refine lv_if_ne (tgt := 10) hx hb dX12_undo_4 (by decide) (fun c1 => ?_) (fun c1 => ?_)
  · have c1 := ci_ne c1
    exfalso
    omega
  have c1 := ci_eq c1
  refine lv_bipush (v := (-5)) hx hb dX12_undo_7 (by decide) ?_
  have hpo : ((-5) : Int32).toInt = -5 := (by omega)
  exact ret _ _ _ _ (-5) () dX12_undo_9 hpo hP hD hS
set_option maxHeartbeats 4000000 in
set_option maxRecDepth 100000 in
theorem k_X12_redo (l : Launch) (D : va_G) (κ : Nat → ClassId) (β : Nat) (a12 : Nat) (r12 : Nat → Nat) (v12_keptMany : Int32) (v12_done : Int32) (v12_sheets : Int32) (v12_holes : Int32) (v12_worms : Int32) (v12_laidMany : Int32) (v12_wanted : Int32) (v12_orderMany : Int32) (v12_firstOrder : Int32) (v12_lines : Int32) (v12_marks : Int32) (v12_dots : Int32) (v12_madeIn : Int32) (v12_bound : Int32) (v12_places : Int32) (v12_maps : Int32) (v12_tapeMany : Int32) (v12_stories : Int32) (v12_base : Int32) (v12_at : Int32) (v12_ends : Int32) (v12_fault : Int32) (v12_opened : Int32) (v12_bodies : Int32) (v12_ran : Int32) (v12_ownKind : Int32) (v12_ownNumber : Int32) (sz : Nat) (i1 : Rg 0 40 v12_keptMany) (i2 : Rg 0 40 v12_done) (i3 : Rg 0 8 v12_sheets) (i4 : Rg 0 40 v12_holes) (i5 : Rg 0 40 v12_worms) (i6 : Rg 0 8 v12_laidMany) (i7 : Rg 0 8 v12_wanted) (i8 : Rg 0 20 v12_lines) (i9 : Rg 0 60 v12_marks) (i10 : Rg 0 40 v12_dots) (i11 : Rg 0 20 v12_places) (i12 : Rg 0 8 v12_maps) (i13 : Rg 0 120 v12_tapeMany) (i14 : Rg 0 6 v12_stories) (i15 : Rg 0 50 v12_bodies) (i16 : Rg 0 1000 v12_ran) (i17 : v12_done.toInt ≤ v12_keptMany.toInt) (i18 : v12_keptMany.toInt = 0) (i19 : v12_done.toInt = 0) (i20 : v12_sheets.toInt = 0) (i21 : v12_holes.toInt = 0) (i22 : v12_worms.toInt = 0) (i23 : v12_lines.toInt = 0) (i24 : v12_marks.toInt = 0) (i25 : v12_dots.toInt = 0) (i26 : v12_madeIn.toInt = 2001) (i27 : v12_places.toInt = 0) (i28 : v12_maps.toInt = 0) (i29 : v12_tapeMany.toInt = 0) (i30 : v12_stories.toInt = 0) (i31 : v12_bodies.toInt = 0) : Met l yX12_redo wsX12_redo ({ frames := 0, cells := 0, slots := 0, locals := 0 } : Room) (PcK D κ β [O12 a12 r12 v12_keptMany v12_done v12_sheets v12_holes v12_worms v12_laidMany v12_wanted v12_orderMany v12_firstOrder v12_lines v12_marks v12_dots v12_madeIn v12_bound v12_places v12_maps v12_tapeMany v12_stories v12_base v12_at v12_ends v12_fault v12_opened v12_bodies v12_ran v12_ownKind v12_ownNumber] sz [.ref a12]) (QiK D (fun (r : Int32) (u : Unit) => r.toInt = -5) (fun (u : Unit) => [O12 a12 r12 v12_keptMany v12_done v12_sheets v12_holes v12_worms v12_laidMany v12_wanted v12_orderMany v12_firstOrder v12_lines v12_marks v12_dots v12_madeIn v12_bound v12_places v12_maps v12_tapeMany v12_stories v12_base v12_at v12_ends v12_fault v12_opened v12_bodies v12_ran v12_ownKind v12_ownNumber]) [O12 a12 r12 v12_keptMany v12_done v12_sheets v12_holes v12_worms v12_laidMany v12_wanted v12_orderMany v12_firstOrder v12_lines v12_marks v12_dots v12_madeIn v12_bound v12_places v12_maps v12_tapeMany v12_stories v12_base v12_at v12_ends v12_fault v12_opened v12_bodies v12_ran v12_ownKind v12_ownNumber] sz) 0 0 (va_A [O12 a12 r12 v12_keptMany v12_done v12_sheets v12_holes v12_worms v12_laidMany v12_wanted v12_orderMany v12_firstOrder v12_lines v12_marks v12_dots v12_madeIn v12_bound v12_places v12_maps v12_tapeMany v12_stories v12_base v12_at v12_ends v12_fault v12_opened v12_bodies v12_ran v12_ownKind v12_ownNumber] sz) := by
  refine ofK_i (cc := cX12_redo) (maxL := 1) (own := RX12) (by decide) rfl rfl (Nat.le_of_ble_eq_true rfl) ?_
  intro p e s m args below meth c Q A ls hsz hx hb hml hts hown hK hA hAB hP hD hl ret
  have hS : va_S A s.heap s.heap [] := va_S.rf
  have hl : lv_has ls 1 [(0, .ref a12)] := hl
  have w0 := hts (.fieldLink RX12 127 "OlderSkinModel" "done" "I") (List.mem_of_getElem? (i := 1) rfl)
  have w1 := (fun w h => List.mem_cons_of_mem _ (List.mem_append_right _ h) : ∀ w ∈ u_ws RX12 TX12 63, w ∈ wsX12_redo)
  have w2 := hts (.fieldLink RX12 130 "OlderSkinModel" "keptMany" "I") (List.mem_of_getElem? (i := 2) rfl)
  have l0 : (0 : Int32).toInt = 0 := by decide
  have l1 : ((-5) : Int32).toInt = -5 := by decide
  have i1 : 0 ≤ v12_keptMany.toInt ∧ v12_keptMany.toInt ≤ 40 := i1
  have i2 : 0 ≤ v12_done.toInt ∧ v12_done.toInt ≤ 40 := i2
  refine lv_aload_n hx hb dX12_redo_0 rfl (lv_at hl 0 rfl) ?_
  refine va_get (D := D) (ci := 12) (v := .int v12_done) (C := RX12) (T := TX12) (N := 63) hx hb hts w1 hown hK.1 hP 0 rfl rfl 5 (by decide) w0 (fun _ h9 => h9) rfl dX12_redo_1 ?_
  refine lv_aload_n hx hb dX12_redo_4 rfl (lv_at hl 0 rfl) ?_
  refine va_get (D := D) (ci := 12) (v := .int v12_keptMany) (C := RX12) (T := TX12) (N := 63) hx hb hts w1 hown hK.1 hP 0 rfl rfl 4 (by decide) w2 (fun _ h9 => h9) rfl dX12_redo_5 ?_
  refine lv_icmp_ne (tgt := 14) hx hb dX12_redo_8 (by decide) (fun c1 => ?_) (fun c1 => ?_)
  · have c1 := ci_ne c1
    exfalso
    omega
  have c1 := ci_eq c1
  refine lv_bipush (v := (-5)) hx hb dX12_redo_11 (by decide) ?_
  have hpo : ((-5) : Int32).toInt = -5 := (by omega)
  exact ret _ _ _ _ (-5) () dX12_redo_13 hpo hP hD hS
set_option maxHeartbeats 4000000 in
set_option maxRecDepth 100000 in
theorem k_X12_age (l : Launch) (D : va_G) (κ : Nat → ClassId) (β : Nat) (a12 : Nat) (r12 : Nat → Nat) (v12_keptMany : Int32) (v12_done : Int32) (v12_sheets : Int32) (v12_holes : Int32) (v12_worms : Int32) (v12_laidMany : Int32) (v12_wanted : Int32) (v12_orderMany : Int32) (v12_firstOrder : Int32) (v12_lines : Int32) (v12_marks : Int32) (v12_dots : Int32) (v12_madeIn : Int32) (v12_bound : Int32) (v12_places : Int32) (v12_maps : Int32) (v12_tapeMany : Int32) (v12_stories : Int32) (v12_base : Int32) (v12_at : Int32) (v12_ends : Int32) (v12_fault : Int32) (v12_opened : Int32) (v12_bodies : Int32) (v12_ran : Int32) (v12_ownKind : Int32) (v12_ownNumber : Int32) (sz : Nat) (p1 : Int32) (p2 : Int32) (i1 : Rg 0 40 v12_keptMany) (i2 : Rg 0 40 v12_done) (i3 : Rg 0 8 v12_sheets) (i4 : Rg 0 40 v12_holes) (i5 : Rg 0 40 v12_worms) (i6 : Rg 0 8 v12_laidMany) (i7 : Rg 0 8 v12_wanted) (i8 : Rg 0 20 v12_lines) (i9 : Rg 0 60 v12_marks) (i10 : Rg 0 40 v12_dots) (i11 : Rg 0 20 v12_places) (i12 : Rg 0 8 v12_maps) (i13 : Rg 0 120 v12_tapeMany) (i14 : Rg 0 6 v12_stories) (i15 : Rg 0 50 v12_bodies) (i16 : Rg 0 1000 v12_ran) (i17 : v12_done.toInt ≤ v12_keptMany.toInt) (i18 : v12_keptMany.toInt = 0) (i19 : v12_done.toInt = 0) (i20 : v12_sheets.toInt = 0) (i21 : v12_holes.toInt = 0) (i22 : v12_worms.toInt = 0) (i23 : v12_lines.toInt = 0) (i24 : v12_marks.toInt = 0) (i25 : v12_dots.toInt = 0) (i26 : v12_madeIn.toInt = 2001) (i27 : v12_places.toInt = 0) (i28 : v12_maps.toInt = 0) (i29 : v12_tapeMany.toInt = 0) (i30 : v12_stories.toInt = 0) (i31 : v12_bodies.toInt = 0) : Met l yX12_age wsX12_age ({ frames := 2, cells := 0, slots := 0, locals := 46 } : Room) (PcK D κ β [O12 a12 r12 v12_keptMany v12_done v12_sheets v12_holes v12_worms v12_laidMany v12_wanted v12_orderMany v12_firstOrder v12_lines v12_marks v12_dots v12_madeIn v12_bound v12_places v12_maps v12_tapeMany v12_stories v12_base v12_at v12_ends v12_fault v12_opened v12_bodies v12_ran v12_ownKind v12_ownNumber] sz [.ref a12, .int p1, .int p2]) (QiK D (fun (r : Int32) (u : Unit) => r.toInt = -1) (fun (u : Unit) => [O12 a12 r12 v12_keptMany v12_done v12_sheets v12_holes v12_worms v12_laidMany v12_wanted v12_orderMany v12_firstOrder v12_lines v12_marks v12_dots v12_madeIn v12_bound v12_places v12_maps v12_tapeMany v12_stories v12_base v12_at v12_ends v12_fault v12_opened v12_bodies v12_ran v12_ownKind v12_ownNumber]) [O12 a12 r12 v12_keptMany v12_done v12_sheets v12_holes v12_worms v12_laidMany v12_wanted v12_orderMany v12_firstOrder v12_lines v12_marks v12_dots v12_madeIn v12_bound v12_places v12_maps v12_tapeMany v12_stories v12_base v12_at v12_ends v12_fault v12_opened v12_bodies v12_ran v12_ownKind v12_ownNumber] sz) 0 0 (va_A [O12 a12 r12 v12_keptMany v12_done v12_sheets v12_holes v12_worms v12_laidMany v12_wanted v12_orderMany v12_firstOrder v12_lines v12_marks v12_dots v12_madeIn v12_bound v12_places v12_maps v12_tapeMany v12_stories v12_base v12_at v12_ends v12_fault v12_opened v12_bodies v12_ran v12_ownKind v12_ownNumber] sz) := by
  refine ofK_i (cc := cX12_age) (maxL := 3) (own := RX12) (by decide) rfl rfl (Nat.le_of_ble_eq_true rfl) ?_
  intro p e s m args below meth c Q A ls hsz hx hb hml hts hown hK hA hAB hP hD hl ret
  have hS : va_S A s.heap s.heap [] := va_S.rf
  have hl : lv_has ls 3 [(0, .ref a12), (1, .int p1), (2, .int p2)] := hl
  have l0 : (0 : Int32).toInt = 0 := by decide
  have l1 : ((-1) : Int32).toInt = -1 := by decide
  have i3 : 0 ≤ v12_sheets.toInt ∧ v12_sheets.toInt ≤ 8 := i3
  refine lv_aload_n hx hb dX12_age_0 rfl (lv_at hl 0 rfl) ?_
  refine lv_iload_n hx hb dX12_age_1 rfl (lv_at hl 1 rfl) ?_
  refine kcm_i hA hAB hP hD hS [true] rfl (fun _ => rfl) (fun hPc hDc => va_runV (As := [.int p1]) (rest := []) ⟨hx, hb, hml, hown, hts⟩ (k_X12_isSheet l D κ β a12 r12 v12_keptMany v12_done v12_sheets v12_holes v12_worms v12_laidMany v12_wanted v12_orderMany v12_firstOrder v12_lines v12_marks v12_dots v12_madeIn v12_bound v12_places v12_maps v12_tapeMany v12_stories v12_base v12_at v12_ends v12_fault v12_opened v12_bodies v12_ran v12_ownKind v12_ownNumber s.heap.size p1 i1 i2 i3 i4 i5 i6 i7 i8 i9 i10 i11 i12 i13 i14 i15 i16 i17 (by omega) (by omega) (by omega) (by omega) (by omega) (by omega) (by omega) (by omega) (by omega) (by omega) (by omega) (by omega) (by omega) (by omega)) (cwV 1 hts gX12_age_X12_isSheet rfl rfl rfl (by decide +kernel) ⟨Nat.le_of_ble_eq_true rfl, Nat.le_of_ble_eq_true rfl⟩) (pk_V hK hS hAB hPc hDc 0 (ci := 12) rfl rfl rfl) rfl rfl hl.1 rfl (lv_room (Nat.le_of_ble_eq_true rfl)) dX12_age_2 ⟨Nat.le_of_ble_eq_true rfl, Nat.le_of_ble_eq_true rfl⟩) (fun x1 u2 H locs hw hPD hS => ?_)
  have h3 : (x1.toInt = 1 ∧ 0 ≤ p1.toInt ∧ p1.toInt < v12_sheets.toInt) ∨ (x1.toInt = 0 ∧ (p1.toInt < 0 ∨ v12_sheets.toInt ≤ p1.toInt)) := hw
  obtain ⟨hP, hD⟩ : PD D A [O12 a12 r12 v12_keptMany v12_done v12_sheets v12_holes v12_worms v12_laidMany v12_wanted v12_orderMany v12_firstOrder v12_lines v12_marks v12_dots v12_madeIn v12_bound v12_places v12_maps v12_tapeMany v12_stories v12_base v12_at v12_ends v12_fault v12_opened v12_bodies v12_ran v12_ownKind v12_ownNumber] H := hPD
  refine lv_if_eq (tgt := 27) hx hb dX12_age_5 (by decide) (fun c4 => ?_) (fun c4 => ?_)
  · have c4 := ci_eq c4
    refine lv_iconst (v := (-1)) hx hb dX12_age_27 (by decide) ?_
    have hpo : ((-1) : Int32).toInt = -1 := (by omega)
    exact ret _ _ _ _ (-1) () dX12_age_28 hpo hP hD hS
  have c4 := ci_ne c4
  exfalso
  omega
set_option maxHeartbeats 4000000 in
set_option maxRecDepth 100000 in
theorem k_X12_hole (l : Launch) (D : va_G) (κ : Nat → ClassId) (β : Nat) (a12 : Nat) (r12 : Nat → Nat) (v12_keptMany : Int32) (v12_done : Int32) (v12_sheets : Int32) (v12_holes : Int32) (v12_worms : Int32) (v12_laidMany : Int32) (v12_wanted : Int32) (v12_orderMany : Int32) (v12_firstOrder : Int32) (v12_lines : Int32) (v12_marks : Int32) (v12_dots : Int32) (v12_madeIn : Int32) (v12_bound : Int32) (v12_places : Int32) (v12_maps : Int32) (v12_tapeMany : Int32) (v12_stories : Int32) (v12_base : Int32) (v12_at : Int32) (v12_ends : Int32) (v12_fault : Int32) (v12_opened : Int32) (v12_bodies : Int32) (v12_ran : Int32) (v12_ownKind : Int32) (v12_ownNumber : Int32) (sz : Nat) (p1 : Int32) (p2 : Int32) (i1 : Rg 0 40 v12_keptMany) (i2 : Rg 0 40 v12_done) (i3 : Rg 0 8 v12_sheets) (i4 : Rg 0 40 v12_holes) (i5 : Rg 0 40 v12_worms) (i6 : Rg 0 8 v12_laidMany) (i7 : Rg 0 8 v12_wanted) (i8 : Rg 0 20 v12_lines) (i9 : Rg 0 60 v12_marks) (i10 : Rg 0 40 v12_dots) (i11 : Rg 0 20 v12_places) (i12 : Rg 0 8 v12_maps) (i13 : Rg 0 120 v12_tapeMany) (i14 : Rg 0 6 v12_stories) (i15 : Rg 0 50 v12_bodies) (i16 : Rg 0 1000 v12_ran) (i17 : v12_done.toInt ≤ v12_keptMany.toInt) (i18 : v12_keptMany.toInt = 0) (i19 : v12_done.toInt = 0) (i20 : v12_sheets.toInt = 0) (i21 : v12_holes.toInt = 0) (i22 : v12_worms.toInt = 0) (i23 : v12_lines.toInt = 0) (i24 : v12_marks.toInt = 0) (i25 : v12_dots.toInt = 0) (i26 : v12_madeIn.toInt = 2001) (i27 : v12_places.toInt = 0) (i28 : v12_maps.toInt = 0) (i29 : v12_tapeMany.toInt = 0) (i30 : v12_stories.toInt = 0) (i31 : v12_bodies.toInt = 0) : Met l yX12_hole wsX12_hole ({ frames := 2, cells := 0, slots := 0, locals := 46 } : Room) (PcK D κ β [O12 a12 r12 v12_keptMany v12_done v12_sheets v12_holes v12_worms v12_laidMany v12_wanted v12_orderMany v12_firstOrder v12_lines v12_marks v12_dots v12_madeIn v12_bound v12_places v12_maps v12_tapeMany v12_stories v12_base v12_at v12_ends v12_fault v12_opened v12_bodies v12_ran v12_ownKind v12_ownNumber] sz [.ref a12, .int p1, .int p2]) (QiK D (fun (r : Int32) (u : Unit) => r.toInt = -1) (fun (u : Unit) => [O12 a12 r12 v12_keptMany v12_done v12_sheets v12_holes v12_worms v12_laidMany v12_wanted v12_orderMany v12_firstOrder v12_lines v12_marks v12_dots v12_madeIn v12_bound v12_places v12_maps v12_tapeMany v12_stories v12_base v12_at v12_ends v12_fault v12_opened v12_bodies v12_ran v12_ownKind v12_ownNumber]) [O12 a12 r12 v12_keptMany v12_done v12_sheets v12_holes v12_worms v12_laidMany v12_wanted v12_orderMany v12_firstOrder v12_lines v12_marks v12_dots v12_madeIn v12_bound v12_places v12_maps v12_tapeMany v12_stories v12_base v12_at v12_ends v12_fault v12_opened v12_bodies v12_ran v12_ownKind v12_ownNumber] sz) 0 0 (va_A [O12 a12 r12 v12_keptMany v12_done v12_sheets v12_holes v12_worms v12_laidMany v12_wanted v12_orderMany v12_firstOrder v12_lines v12_marks v12_dots v12_madeIn v12_bound v12_places v12_maps v12_tapeMany v12_stories v12_base v12_at v12_ends v12_fault v12_opened v12_bodies v12_ran v12_ownKind v12_ownNumber] sz) := by
  refine ofK_i (cc := cX12_hole) (maxL := 3) (own := RX12) (by decide) rfl rfl (Nat.le_of_ble_eq_true rfl) ?_
  intro p e s m args below meth c Q A ls hsz hx hb hml hts hown hK hA hAB hP hD hl ret
  have hS : va_S A s.heap s.heap [] := va_S.rf
  have hl : lv_has ls 3 [(0, .ref a12), (1, .int p1), (2, .int p2)] := hl
  have l0 : (0 : Int32).toInt = 0 := by decide
  have l1 : ((-1) : Int32).toInt = -1 := by decide
  have i3 : 0 ≤ v12_sheets.toInt ∧ v12_sheets.toInt ≤ 8 := i3
  have i4 : 0 ≤ v12_holes.toInt ∧ v12_holes.toInt ≤ 40 := i4
  refine lv_aload_n hx hb dX12_hole_0 rfl (lv_at hl 0 rfl) ?_
  refine lv_iload_n hx hb dX12_hole_1 rfl (lv_at hl 1 rfl) ?_
  refine kcm_i hA hAB hP hD hS [true] rfl (fun _ => rfl) (fun hPc hDc => va_runV (As := [.int p1]) (rest := []) ⟨hx, hb, hml, hown, hts⟩ (k_X12_isSheet l D κ β a12 r12 v12_keptMany v12_done v12_sheets v12_holes v12_worms v12_laidMany v12_wanted v12_orderMany v12_firstOrder v12_lines v12_marks v12_dots v12_madeIn v12_bound v12_places v12_maps v12_tapeMany v12_stories v12_base v12_at v12_ends v12_fault v12_opened v12_bodies v12_ran v12_ownKind v12_ownNumber s.heap.size p1 i1 i2 i3 i4 i5 i6 i7 i8 i9 i10 i11 i12 i13 i14 i15 i16 i17 (by omega) (by omega) (by omega) (by omega) (by omega) (by omega) (by omega) (by omega) (by omega) (by omega) (by omega) (by omega) (by omega) (by omega)) (cwV 1 hts gX12_hole_X12_isSheet rfl rfl rfl (by decide +kernel) ⟨Nat.le_of_ble_eq_true rfl, Nat.le_of_ble_eq_true rfl⟩) (pk_V hK hS hAB hPc hDc 0 (ci := 12) rfl rfl rfl) rfl rfl hl.1 rfl (lv_room (Nat.le_of_ble_eq_true rfl)) dX12_hole_2 ⟨Nat.le_of_ble_eq_true rfl, Nat.le_of_ble_eq_true rfl⟩) (fun x1 u2 H locs hw hPD hS => ?_)
  have h3 : (x1.toInt = 1 ∧ 0 ≤ p1.toInt ∧ p1.toInt < v12_sheets.toInt) ∨ (x1.toInt = 0 ∧ (p1.toInt < 0 ∨ v12_sheets.toInt ≤ p1.toInt)) := hw
  obtain ⟨hP, hD⟩ : PD D A [O12 a12 r12 v12_keptMany v12_done v12_sheets v12_holes v12_worms v12_laidMany v12_wanted v12_orderMany v12_firstOrder v12_lines v12_marks v12_dots v12_madeIn v12_bound v12_places v12_maps v12_tapeMany v12_stories v12_base v12_at v12_ends v12_fault v12_opened v12_bodies v12_ran v12_ownKind v12_ownNumber] H := hPD
  refine lv_if_eq (tgt := 20) hx hb dX12_hole_5 (by decide) (fun c4 => ?_) (fun c4 => ?_)
  · have c4 := ci_eq c4
    refine lv_iconst (v := (-1)) hx hb dX12_hole_20 (by decide) ?_
    have hpo : ((-1) : Int32).toInt = -1 := (by omega)
    exact ret _ _ _ _ (-1) () dX12_hole_21 hpo hP hD hS
  have c4 := ci_ne c4
  exfalso
  omega
set_option maxHeartbeats 4000000 in
set_option maxRecDepth 100000 in
theorem k_X12_findWorms (l : Launch) (D : va_G) (κ : Nat → ClassId) (β : Nat) (a12 : Nat) (r12 : Nat → Nat) (v12_keptMany : Int32) (v12_done : Int32) (v12_sheets : Int32) (v12_holes : Int32) (v12_worms : Int32) (v12_laidMany : Int32) (v12_wanted : Int32) (v12_orderMany : Int32) (v12_firstOrder : Int32) (v12_lines : Int32) (v12_marks : Int32) (v12_dots : Int32) (v12_madeIn : Int32) (v12_bound : Int32) (v12_places : Int32) (v12_maps : Int32) (v12_tapeMany : Int32) (v12_stories : Int32) (v12_base : Int32) (v12_at : Int32) (v12_ends : Int32) (v12_fault : Int32) (v12_opened : Int32) (v12_bodies : Int32) (v12_ran : Int32) (v12_ownKind : Int32) (v12_ownNumber : Int32) (sz : Nat) (p1 : Int32) (p2 : Int32) (i1 : Rg 0 40 v12_keptMany) (i2 : Rg 0 40 v12_done) (i3 : Rg 0 8 v12_sheets) (i4 : Rg 0 40 v12_holes) (i5 : Rg 0 40 v12_worms) (i6 : Rg 0 8 v12_laidMany) (i7 : Rg 0 8 v12_wanted) (i8 : Rg 0 20 v12_lines) (i9 : Rg 0 60 v12_marks) (i10 : Rg 0 40 v12_dots) (i11 : Rg 0 20 v12_places) (i12 : Rg 0 8 v12_maps) (i13 : Rg 0 120 v12_tapeMany) (i14 : Rg 0 6 v12_stories) (i15 : Rg 0 50 v12_bodies) (i16 : Rg 0 1000 v12_ran) (i17 : v12_done.toInt ≤ v12_keptMany.toInt) (i18 : v12_keptMany.toInt = 0) (i19 : v12_done.toInt = 0) (i20 : v12_sheets.toInt = 0) (i21 : v12_holes.toInt = 0) (i22 : v12_worms.toInt = 0) (i23 : v12_lines.toInt = 0) (i24 : v12_marks.toInt = 0) (i25 : v12_dots.toInt = 0) (i26 : v12_madeIn.toInt = 2001) (i27 : v12_places.toInt = 0) (i28 : v12_maps.toInt = 0) (i29 : v12_tapeMany.toInt = 0) (i30 : v12_stories.toInt = 0) (i31 : v12_bodies.toInt = 0) : Met l yX12_findWorms wsX12_findWorms ({ frames := 0, cells := 0, slots := 0, locals := 0 } : Room) (PcK D κ β [O12 a12 r12 v12_keptMany v12_done v12_sheets v12_holes v12_worms v12_laidMany v12_wanted v12_orderMany v12_firstOrder v12_lines v12_marks v12_dots v12_madeIn v12_bound v12_places v12_maps v12_tapeMany v12_stories v12_base v12_at v12_ends v12_fault v12_opened v12_bodies v12_ran v12_ownKind v12_ownNumber] sz [.ref a12, .int p1, .int p2]) (QvK D (fun (u : Int32) => (0 ≤ u.toInt ∧ u.toInt ≤ 40) ∧ (u.toInt = 0)) (fun (u : Int32) => [O12 a12 r12 v12_keptMany v12_done v12_sheets v12_holes u v12_laidMany v12_wanted v12_orderMany v12_firstOrder v12_lines v12_marks v12_dots v12_madeIn v12_bound v12_places v12_maps v12_tapeMany v12_stories v12_base v12_at v12_ends v12_fault v12_opened v12_bodies v12_ran v12_ownKind v12_ownNumber]) [O12 a12 r12 v12_keptMany v12_done v12_sheets v12_holes v12_worms v12_laidMany v12_wanted v12_orderMany v12_firstOrder v12_lines v12_marks v12_dots v12_madeIn v12_bound v12_places v12_maps v12_tapeMany v12_stories v12_base v12_at v12_ends v12_fault v12_opened v12_bodies v12_ran v12_ownKind v12_ownNumber] sz) 0 0 (va_A [O12 a12 r12 v12_keptMany v12_done v12_sheets v12_holes v12_worms v12_laidMany v12_wanted v12_orderMany v12_firstOrder v12_lines v12_marks v12_dots v12_madeIn v12_bound v12_places v12_maps v12_tapeMany v12_stories v12_base v12_at v12_ends v12_fault v12_opened v12_bodies v12_ran v12_ownKind v12_ownNumber] sz) := by
  refine ofK_v (cc := cX12_findWorms) (maxL := 8) (own := RX12) (by decide) rfl rfl (Nat.le_of_ble_eq_true rfl) ?_
  intro p e s m args below meth c Q A ls hsz hx hb hml hts hown hK hA hAB hP hD hl hname ret
  have hS : va_S A s.heap s.heap [] := va_S.rf
  have hl : lv_has ls 8 [(0, .ref a12), (1, .int p1), (2, .int p2)] := hl
  have w0 := hts (.fieldLink RX12 140 "OlderSkinModel" "holes" "I") (List.mem_of_getElem? (i := 1) rfl)
  have w1 := (fun w h => List.mem_cons_of_mem _ (List.mem_append_right _ h) : ∀ w ∈ u_ws RX12 TX12 63, w ∈ wsX12_findWorms)
  have w2 := hts (.fieldLink RX12 160 "OlderSkinModel" "worms" "I") (List.mem_of_getElem? (i := 6) rfl)
  have l0 : (0 : Int32).toInt = 0 := by decide
  have i4 : 0 ≤ v12_holes.toInt ∧ v12_holes.toInt ≤ 40 := i4
  have i5 : 0 ≤ v12_worms.toInt ∧ v12_worms.toInt ≤ 40 := i5
  refine lv_iconst (v := 0) hx hb dX12_findWorms_0 (by decide) ?_
  refine lv_istore_n (lv' := [(3, .int 0), (0, .ref a12), (1, .int p1), (2, .int p2)]) hx hb dX12_findWorms_1 rfl hl (by decide) rfl (fun ls hl => ?_)
  refine lv_iconst (v := 0) hx hb dX12_findWorms_2 (by decide) ?_
  refine lv_istore (lv' := [(4, .int 0), (3, .int 0), (0, .ref a12), (1, .int p1), (2, .int p2)]) hx hb dX12_findWorms_3 hl (by decide) rfl (fun ls hl => ?_)
  have lp5 : ∀ (n5 : Nat), (0 ≤ (0 : Int32).toInt ∧ (0 : Int32).toInt ≤ (0 : Int32).toInt) → ((0 : Int32).toInt ≤ v12_holes.toInt) → (0 ≤ (0 : Int32).toInt) → (v12_holes.toInt - (0 : Int32).toInt).toNat < n5 → ∀ (H : Heap) (locs : List Loc), va_P D vwCl [O12 a12 r12 v12_keptMany v12_done v12_sheets v12_holes v12_worms v12_laidMany v12_wanted v12_orderMany v12_firstOrder v12_lines v12_marks v12_dots v12_madeIn v12_bound v12_places v12_maps v12_tapeMany v12_stories v12_base v12_at v12_ends v12_fault v12_opened v12_bodies v12_ran v12_ownKind v12_ownNumber] H → va_D A [O12 a12 r12 v12_keptMany v12_done v12_sheets v12_holes v12_worms v12_laidMany v12_wanted v12_orderMany v12_firstOrder v12_lines v12_marks v12_dots v12_madeIn v12_bound v12_places v12_maps v12_tapeMany v12_stories v12_base v12_at v12_ends v12_fault v12_opened v12_bodies v12_ran v12_ownKind v12_ownNumber] → va_S A s.heap H locs → ∀ ls : Array Slot, lv_has ls 8 [(4, .int 0), (3, .int 0), (0, .ref a12), (1, .int p1), (2, .int p2)] → W p l e ({ frames := 0, cells := 0, slots := 0, locals := 0 } : Room) s m args below meth c H locs 0 0 Q (F0 m 5 ls []) := by
    intro n5
    induction n5 with
    | zero =>
      intro h1 h2 h3 m4
      exact absurd m4 (Nat.not_lt_zero _)
    | succ n5 ih5 =>
      intro h1 h2 h3 m4 H locs hP hD hS ls hl
      refine lv_iload hx hb dX12_findWorms_5 (lv_at hl 0 rfl) ?_
      refine lv_aload_n hx hb dX12_findWorms_7 rfl (lv_at hl 2 rfl) ?_
      refine va_get (D := D) (ci := 12) (v := .int v12_holes) (C := RX12) (T := TX12) (N := 63) hx hb hts w1 hown hK.1 hP 0 rfl rfl 7 (by decide) w0 (fun _ h9 => h9) rfl dX12_findWorms_8 ?_
      refine lv_icmp_ge (tgt := 105) hx hb dX12_findWorms_11 (by decide) (fun c5 => ?_) (fun c5 => ?_)
      · have c5 := ci_le c5
        refine lv_aload_n hx hb dX12_findWorms_105 rfl (lv_at hl 2 rfl) ?_
        refine lv_iconst (v := 0) hx hb dX12_findWorms_106 (by decide) ?_
        refine va_put (D := D) (ci := 12) (v := .int 0) (ty := .int) (C := RX12) (T := TX12) (N := 63) hx hb hts w1 tyX12 tyX12_ok nmX12 hown hK.1 hP hD hS 0 rfl rfl 13 (by decide) w2 (fun _ h9 => h9) rfl (by decide +kernel) rfl rfl (Nat.le_of_ble_eq_true rfl) dX12_findWorms_107 (fun H locs hP hD hS => ?_)
        obtain ⟨hP, hD⟩ : PD D A [O12 a12 r12 v12_keptMany v12_done v12_sheets v12_holes 0 v12_laidMany v12_wanted v12_orderMany v12_firstOrder v12_lines v12_marks v12_dots v12_madeIn v12_bound v12_places v12_maps v12_tapeMany v12_stories v12_base v12_at v12_ends v12_fault v12_opened v12_bodies v12_ran v12_ownKind v12_ownNumber] H := ⟨hP, hD⟩
        have h6 : 0 ≤ (0 : Int32).toInt ∧ (0 : Int32).toInt ≤ 40 := by omega
        refine lv_iconst (v := 0) hx hb dX12_findWorms_110 (by decide) ?_
        refine lv_istore (lv' := [(4, .int 0), (3, .int 0), (0, .ref a12), (1, .int p1), (2, .int p2)]) hx hb dX12_findWorms_111 hl (by decide) rfl (fun ls hl => ?_)
        have lp113 : ∀ (n113 : Nat), ((0 : Int32).toInt ≤ (0 : Int32).toInt) → ((0 : Int32).toInt = 0 ∨ 1 ≤ (0 : Int32).toInt) → (0 ≤ (0 : Int32).toInt) → (0 - (0 : Int32).toInt).toNat < n113 → ∀ (H : Heap) (locs : List Loc), va_P D vwCl [O12 a12 r12 v12_keptMany v12_done v12_sheets v12_holes 0 v12_laidMany v12_wanted v12_orderMany v12_firstOrder v12_lines v12_marks v12_dots v12_madeIn v12_bound v12_places v12_maps v12_tapeMany v12_stories v12_base v12_at v12_ends v12_fault v12_opened v12_bodies v12_ran v12_ownKind v12_ownNumber] H → va_D A [O12 a12 r12 v12_keptMany v12_done v12_sheets v12_holes 0 v12_laidMany v12_wanted v12_orderMany v12_firstOrder v12_lines v12_marks v12_dots v12_madeIn v12_bound v12_places v12_maps v12_tapeMany v12_stories v12_base v12_at v12_ends v12_fault v12_opened v12_bodies v12_ran v12_ownKind v12_ownNumber] → va_S A s.heap H locs → ∀ ls : Array Slot, lv_has ls 8 [(4, .int 0), (3, .int 0), (0, .ref a12), (1, .int p1), (2, .int p2)] → W p l e ({ frames := 0, cells := 0, slots := 0, locals := 0 } : Room) s m args below meth c H locs 0 0 Q (F0 m 113 ls []) := by
          intro n113
          induction n113 with
          | zero =>
            intro h7 h8 h9 m10
            exact absurd m10 (Nat.not_lt_zero _)
          | succ n113 ih113 =>
            intro h7 h8 h9 m10 H locs hP hD hS ls hl
            refine lv_iload hx hb dX12_findWorms_113 (lv_at hl 0 rfl) ?_
            refine lv_iload_n hx hb dX12_findWorms_115 rfl (lv_at hl 1 rfl) ?_
            refine lv_icmp_ge (tgt := 263) hx hb dX12_findWorms_116 (by decide) (fun c11 => ?_) (fun c11 => ?_)
            · have c11 := ci_le c11
              have hpo : (0 ≤ (0 : Int32).toInt ∧ (0 : Int32).toInt ≤ 40) ∧ ((0 : Int32).toInt = 0) := ⟨h6, (by omega)⟩
              exact ret _ _ _ _ 0 dX12_findWorms_263 hpo hP hD hS
            have c11 := ci_nle c11
            exfalso
            omega
        exact lp113 ((0 - (0 : Int32).toInt).toNat + 1) (by omega) (by omega) (by omega) (by omega) _ _ hP hD hS _ hl
      have c5 := ci_nle c5
      exfalso
      omega
  exact lp5 ((v12_holes.toInt - (0 : Int32).toInt).toNat + 1) (by omega) (by omega) (by omega) (by omega) _ _ hP hD hS _ hl
set_option maxHeartbeats 4000000 in
set_option maxRecDepth 100000 in
theorem k_X12_worms (l : Launch) (D : va_G) (κ : Nat → ClassId) (β : Nat) (a12 : Nat) (r12 : Nat → Nat) (v12_keptMany : Int32) (v12_done : Int32) (v12_sheets : Int32) (v12_holes : Int32) (v12_worms : Int32) (v12_laidMany : Int32) (v12_wanted : Int32) (v12_orderMany : Int32) (v12_firstOrder : Int32) (v12_lines : Int32) (v12_marks : Int32) (v12_dots : Int32) (v12_madeIn : Int32) (v12_bound : Int32) (v12_places : Int32) (v12_maps : Int32) (v12_tapeMany : Int32) (v12_stories : Int32) (v12_base : Int32) (v12_at : Int32) (v12_ends : Int32) (v12_fault : Int32) (v12_opened : Int32) (v12_bodies : Int32) (v12_ran : Int32) (v12_ownKind : Int32) (v12_ownNumber : Int32) (f12_wormSheets : Nat → Int32) (sz : Nat) (p1 : Int32) (p2 : Int32) (i1 : Rg 0 40 v12_keptMany) (i2 : Rg 0 40 v12_done) (i3 : Rg 0 8 v12_sheets) (i4 : Rg 0 40 v12_holes) (i5 : Rg 0 40 v12_worms) (i6 : Rg 0 8 v12_laidMany) (i7 : Rg 0 8 v12_wanted) (i8 : Rg 0 20 v12_lines) (i9 : Rg 0 60 v12_marks) (i10 : Rg 0 40 v12_dots) (i11 : Rg 0 20 v12_places) (i12 : Rg 0 8 v12_maps) (i13 : Rg 0 120 v12_tapeMany) (i14 : Rg 0 6 v12_stories) (i15 : Rg 0 50 v12_bodies) (i16 : Rg 0 1000 v12_ran) (i17 : v12_done.toInt ≤ v12_keptMany.toInt) (i18 : v12_keptMany.toInt = 0) (i19 : v12_done.toInt = 0) (i20 : v12_sheets.toInt = 0) (i21 : v12_holes.toInt = 0) (i22 : v12_worms.toInt = 0) (i23 : v12_lines.toInt = 0) (i24 : v12_marks.toInt = 0) (i25 : v12_dots.toInt = 0) (i26 : v12_madeIn.toInt = 2001) (i27 : v12_places.toInt = 0) (i28 : v12_maps.toInt = 0) (i29 : v12_tapeMany.toInt = 0) (i30 : v12_stories.toInt = 0) (i31 : v12_bodies.toInt = 0) : Met l yX12_worms wsX12_worms ({ frames := 2, cells := 0, slots := 0, locals := 45 } : Room) (PcK D κ β [O12 a12 r12 v12_keptMany v12_done v12_sheets v12_holes v12_worms v12_laidMany v12_wanted v12_orderMany v12_firstOrder v12_lines v12_marks v12_dots v12_madeIn v12_bound v12_places v12_maps v12_tapeMany v12_stories v12_base v12_at v12_ends v12_fault v12_opened v12_bodies v12_ran v12_ownKind v12_ownNumber, (cI κ (r12 12) 40 f12_wormSheets)] sz [.ref a12, .int p1, .int p2]) (QiK D (fun (r : Int32) (u : Int32) => (0 ≤ u.toInt ∧ u.toInt ≤ 40) ∧ (((0 ≤ p1.toInt ∧ p1.toInt ≤ 99 ∧ p2.toInt = -1) ∧ r.toInt = 0) ∨ (¬ (0 ≤ p1.toInt ∧ p1.toInt ≤ 99 ∧ p2.toInt = -1) ∧ r.toInt = -1))) (fun (u : Int32) => [O12 a12 r12 v12_keptMany v12_done v12_sheets v12_holes u v12_laidMany v12_wanted v12_orderMany v12_firstOrder v12_lines v12_marks v12_dots v12_madeIn v12_bound v12_places v12_maps v12_tapeMany v12_stories v12_base v12_at v12_ends v12_fault v12_opened v12_bodies v12_ran v12_ownKind v12_ownNumber, (cI κ (r12 12) 40 f12_wormSheets)]) [O12 a12 r12 v12_keptMany v12_done v12_sheets v12_holes v12_worms v12_laidMany v12_wanted v12_orderMany v12_firstOrder v12_lines v12_marks v12_dots v12_madeIn v12_bound v12_places v12_maps v12_tapeMany v12_stories v12_base v12_at v12_ends v12_fault v12_opened v12_bodies v12_ran v12_ownKind v12_ownNumber, (cI κ (r12 12) 40 f12_wormSheets)] sz) 0 0 (va_A [O12 a12 r12 v12_keptMany v12_done v12_sheets v12_holes v12_worms v12_laidMany v12_wanted v12_orderMany v12_firstOrder v12_lines v12_marks v12_dots v12_madeIn v12_bound v12_places v12_maps v12_tapeMany v12_stories v12_base v12_at v12_ends v12_fault v12_opened v12_bodies v12_ran v12_ownKind v12_ownNumber, (cI κ (r12 12) 40 f12_wormSheets)] sz) := by
  refine ofK_i (cc := cX12_worms) (maxL := 3) (own := RX12) (by decide) rfl rfl (Nat.le_of_ble_eq_true rfl) ?_
  intro p e s m args below meth c Q A ls hsz hx hb hml hts hown hK hA hAB hP hD hl ret
  have hS : va_S A s.heap s.heap [] := va_S.rf
  have hl : lv_has ls 3 [(0, .ref a12), (1, .int p1), (2, .int p2)] := hl
  have w0 := hts (.fieldLink RX12 160 "OlderSkinModel" "worms" "I") (List.mem_of_getElem? (i := 1) rfl)
  have w1 := (fun w h => List.mem_cons_of_mem _ (List.mem_append_right _ h) : ∀ w ∈ u_ws RX12 TX12 63, w ∈ wsX12_worms)
  have w2 := hts (.fieldLink RX12 34 "OlderSkinModel" "wormSheets" "[I") (List.mem_of_getElem? (i := 2) rfl)
  have l0 : (0 : Int32).toInt = 0 := by decide
  have l1 : ((-1) : Int32).toInt = -1 := by decide
  have i5 : 0 ≤ v12_worms.toInt ∧ v12_worms.toInt ≤ 40 := i5
  refine lv_iload_n hx hb dX12_worms_0 rfl (lv_at hl 1 rfl) ?_
  refine kcm_i hA hAB hP hD hS [false, false] rfl (fun _ => rfl) (fun hPc hDc => va_runS (As := [.int p1]) (rest := []) ⟨hx, hb, hml, hown, hts⟩ (k_X12_isSlack l D κ β s.heap.size p1) (va_cwS 1 hts gX12_worms_X12_isSlack rfl rfl rfl (by decide +kernel) ⟨Nat.le_of_ble_eq_true rfl, Nat.le_of_ble_eq_true rfl⟩) (pk_S hK hS hAB hPc hDc) rfl rfl hl.1 rfl (lv_room (Nat.le_of_ble_eq_true rfl)) dX12_worms_1 ⟨Nat.le_of_ble_eq_true rfl, Nat.le_of_ble_eq_true rfl⟩) (fun x1 u2 H locs hw hPD hS => ?_)
  have h3 : (x1.toInt = 1 ∧ 0 ≤ p1.toInt ∧ p1.toInt ≤ 99) ∨ (x1.toInt = 0 ∧ (p1.toInt < 0 ∨ 99 < p1.toInt)) := hw
  obtain ⟨hP, hD⟩ : PD D A [O12 a12 r12 v12_keptMany v12_done v12_sheets v12_holes v12_worms v12_laidMany v12_wanted v12_orderMany v12_firstOrder v12_lines v12_marks v12_dots v12_madeIn v12_bound v12_places v12_maps v12_tapeMany v12_stories v12_base v12_at v12_ends v12_fault v12_opened v12_bodies v12_ran v12_ownKind v12_ownNumber, (cI κ (r12 12) 40 f12_wormSheets)] H := hPD
  refine lv_if_eq (tgt := 12) hx hb dX12_worms_4 (by decide) (fun c4 => ?_) (fun c4 => ?_)
  · have c4 := ci_eq c4
    refine lv_iconst (v := (-1)) hx hb dX12_worms_12 (by decide) ?_
    have hpo : (0 ≤ v12_worms.toInt ∧ v12_worms.toInt ≤ 40) ∧ (((0 ≤ p1.toInt ∧ p1.toInt ≤ 99 ∧ p2.toInt = -1) ∧ ((-1) : Int32).toInt = 0) ∨ (¬ (0 ≤ p1.toInt ∧ p1.toInt ≤ 99 ∧ p2.toInt = -1) ∧ ((-1) : Int32).toInt = -1)) := ⟨i5, (by omega)⟩
    exact ret _ _ _ _ (-1) v12_worms dX12_worms_13 hpo hP hD hS
  have c4 := ci_ne c4
  refine lv_iload_n hx hb dX12_worms_7 rfl (lv_at hl 2 rfl) ?_
  refine lv_iconst (v := (-1)) hx hb dX12_worms_8 (by decide) ?_
  refine lv_icmp_ge (tgt := 14) hx hb dX12_worms_9 (by decide) (fun c5 => ?_) (fun c5 => ?_)
  · have c5 := ci_le c5
    refine lv_aload_n hx hb dX12_worms_14 rfl (lv_at hl 0 rfl) ?_
    refine lv_iload_n hx hb dX12_worms_15 rfl (lv_at hl 1 rfl) ?_
    refine lv_iconst (v := (-1)) hx hb dX12_worms_16 (by decide) ?_
    refine kcm_v hA hAB hP hD hS [true, false] rfl (fun _ => rfl) (fun hPc hDc => va_runV (As := [.int p1, .int (-1)]) (rest := []) ⟨hx, hb, hml, hown, hts⟩ (k_X12_findWorms l D κ β a12 r12 v12_keptMany v12_done v12_sheets v12_holes v12_worms v12_laidMany v12_wanted v12_orderMany v12_firstOrder v12_lines v12_marks v12_dots v12_madeIn v12_bound v12_places v12_maps v12_tapeMany v12_stories v12_base v12_at v12_ends v12_fault v12_opened v12_bodies v12_ran v12_ownKind v12_ownNumber H.size p1 (-1) i1 i2 i3 i4 i5 i6 i7 i8 i9 i10 i11 i12 i13 i14 i15 i16 i17 (by omega) (by omega) (by omega) (by omega) (by omega) (by omega) (by omega) (by omega) (by omega) (by omega) (by omega) (by omega) (by omega) (by omega)) (cwV 2 hts gX12_worms_X12_findWorms rfl rfl rfl (by decide +kernel) ⟨Nat.le_of_ble_eq_true rfl, Nat.le_of_ble_eq_true rfl⟩) (pk_V hK hS hAB hPc hDc 0 (ci := 12) rfl rfl rfl) rfl rfl hl.1 rfl (lv_room (Nat.le_of_ble_eq_true rfl)) dX12_worms_17 ⟨Nat.le_of_ble_eq_true rfl, Nat.le_of_ble_eq_true rfl⟩) (fun x6 H locs hw hPD hS => ?_)
    obtain ⟨h7, h8⟩ : (0 ≤ x6.toInt ∧ x6.toInt ≤ 40) ∧ (x6.toInt = 0) := hw
    obtain ⟨hP, hD⟩ : PD D A [O12 a12 r12 v12_keptMany v12_done v12_sheets v12_holes x6 v12_laidMany v12_wanted v12_orderMany v12_firstOrder v12_lines v12_marks v12_dots v12_madeIn v12_bound v12_places v12_maps v12_tapeMany v12_stories v12_base v12_at v12_ends v12_fault v12_opened v12_bodies v12_ran v12_ownKind v12_ownNumber, (cI κ (r12 12) 40 f12_wormSheets)] H := hPD
    refine lv_iload_n hx hb dX12_worms_20 rfl (lv_at hl 2 rfl) ?_
    refine lv_iconst (v := (-1)) hx hb dX12_worms_21 (by decide) ?_
    refine lv_icmp_ne (tgt := 32) hx hb dX12_worms_22 (by decide) (fun c9 => ?_) (fun c9 => ?_)
    · have c9 := ci_ne c9
      refine lv_iload_n hx hb dX12_worms_32 rfl (lv_at hl 2 rfl) ?_
      refine lv_aload_n hx hb dX12_worms_33 rfl (lv_at hl 0 rfl) ?_
      refine va_get (D := D) (ci := 12) (v := .int x6) (C := RX12) (T := TX12) (N := 63) hx hb hts w1 hown hK.1 hP 0 rfl rfl 13 (by decide) w0 (fun _ h9 => h9) rfl dX12_worms_34 ?_
      refine lv_icmp_ge (tgt := 49) hx hb dX12_worms_37 (by decide) (fun c10 => ?_) (fun c10 => ?_)
      · have c10 := ci_le c10
        refine lv_iconst (v := (-1)) hx hb dX12_worms_49 (by decide) ?_
        have hpo : (0 ≤ x6.toInt ∧ x6.toInt ≤ 40) ∧ (((0 ≤ p1.toInt ∧ p1.toInt ≤ 99 ∧ p2.toInt = -1) ∧ ((-1) : Int32).toInt = 0) ∨ (¬ (0 ≤ p1.toInt ∧ p1.toInt ≤ 99 ∧ p2.toInt = -1) ∧ ((-1) : Int32).toInt = -1)) := ⟨h7, (by omega)⟩
        exact ret _ _ _ _ (-1) x6 dX12_worms_50 hpo hP hD hS
      have c10 := ci_nle c10
      refine lv_aload_n hx hb dX12_worms_40 rfl (lv_at hl 0 rfl) ?_
      refine va_get (D := D) (ci := 12) (v := .ref (r12 12)) (C := RX12) (T := TX12) (N := 63) hx hb hts w1 hown hK.1 hP 0 rfl rfl 12 (by decide) w2 (fun _ h9 => h9) rfl dX12_worms_41 ?_
      refine lv_iload_n hx hb dX12_worms_44 rfl (lv_at hl 2 rfl) ?_
      refine va_iald hx hb hK.1 hP 1 1 rfl rfl (i := p2) (ix (by omega) (by omega)) dX12_worms_45 ?_
      refine lv_topi (fun x11 e12 => ?_)
      refine lv_goto (tgt := 50) hx hb dX12_worms_46 (by decide) ?_
      have hpo : (0 ≤ x6.toInt ∧ x6.toInt ≤ 40) ∧ (((0 ≤ p1.toInt ∧ p1.toInt ≤ 99 ∧ p2.toInt = -1) ∧ x11.toInt = 0) ∨ (¬ (0 ≤ p1.toInt ∧ p1.toInt ≤ 99 ∧ p2.toInt = -1) ∧ x11.toInt = -1)) := ⟨h7, (by omega)⟩
      exact ret _ _ _ _ x11 x6 dX12_worms_50 hpo hP hD hS
    have c9 := ci_eq c9
    refine lv_aload_n hx hb dX12_worms_25 rfl (lv_at hl 0 rfl) ?_
    refine va_get (D := D) (ci := 12) (v := .int x6) (C := RX12) (T := TX12) (N := 63) hx hb hts w1 hown hK.1 hP 0 rfl rfl 13 (by decide) w0 (fun _ h9 => h9) rfl dX12_worms_26 ?_
    refine lv_goto (tgt := 50) hx hb dX12_worms_29 (by decide) ?_
    have hpo : (0 ≤ x6.toInt ∧ x6.toInt ≤ 40) ∧ (((0 ≤ p1.toInt ∧ p1.toInt ≤ 99 ∧ p2.toInt = -1) ∧ x6.toInt = 0) ∨ (¬ (0 ≤ p1.toInt ∧ p1.toInt ≤ 99 ∧ p2.toInt = -1) ∧ x6.toInt = -1)) := ⟨h7, (by omega)⟩
    exact ret _ _ _ _ x6 x6 dX12_worms_50 hpo hP hD hS
  have c5 := ci_nle c5
  refine lv_iconst (v := (-1)) hx hb dX12_worms_12 (by decide) ?_
  have hpo : (0 ≤ v12_worms.toInt ∧ v12_worms.toInt ≤ 40) ∧ (((0 ≤ p1.toInt ∧ p1.toInt ≤ 99 ∧ p2.toInt = -1) ∧ ((-1) : Int32).toInt = 0) ∨ (¬ (0 ≤ p1.toInt ∧ p1.toInt ≤ 99 ∧ p2.toInt = -1) ∧ ((-1) : Int32).toInt = -1)) := ⟨i5, (by omega)⟩
  exact ret _ _ _ _ (-1) v12_worms dX12_worms_13 hpo hP hD hS
set_option maxHeartbeats 4000000 in
set_option maxRecDepth 100000 in
theorem k_X12_led (l : Launch) (D : va_G) (κ : Nat → ClassId) (β : Nat) (a12 : Nat) (r12 : Nat → Nat) (v12_keptMany : Int32) (v12_done : Int32) (v12_sheets : Int32) (v12_holes : Int32) (v12_worms : Int32) (v12_laidMany : Int32) (v12_wanted : Int32) (v12_orderMany : Int32) (v12_firstOrder : Int32) (v12_lines : Int32) (v12_marks : Int32) (v12_dots : Int32) (v12_madeIn : Int32) (v12_bound : Int32) (v12_places : Int32) (v12_maps : Int32) (v12_tapeMany : Int32) (v12_stories : Int32) (v12_base : Int32) (v12_at : Int32) (v12_ends : Int32) (v12_fault : Int32) (v12_opened : Int32) (v12_bodies : Int32) (v12_ran : Int32) (v12_ownKind : Int32) (v12_ownNumber : Int32) (sz : Nat) (p1 : Int32) (p2 : Int32) (i1 : Rg 0 40 v12_keptMany) (i2 : Rg 0 40 v12_done) (i3 : Rg 0 8 v12_sheets) (i4 : Rg 0 40 v12_holes) (i5 : Rg 0 40 v12_worms) (i6 : Rg 0 8 v12_laidMany) (i7 : Rg 0 8 v12_wanted) (i8 : Rg 0 20 v12_lines) (i9 : Rg 0 60 v12_marks) (i10 : Rg 0 40 v12_dots) (i11 : Rg 0 20 v12_places) (i12 : Rg 0 8 v12_maps) (i13 : Rg 0 120 v12_tapeMany) (i14 : Rg 0 6 v12_stories) (i15 : Rg 0 50 v12_bodies) (i16 : Rg 0 1000 v12_ran) (i17 : v12_done.toInt ≤ v12_keptMany.toInt) (i18 : v12_keptMany.toInt = 0) (i19 : v12_done.toInt = 0) (i20 : v12_sheets.toInt = 0) (i21 : v12_holes.toInt = 0) (i22 : v12_worms.toInt = 0) (i23 : v12_lines.toInt = 0) (i24 : v12_marks.toInt = 0) (i25 : v12_dots.toInt = 0) (i26 : v12_madeIn.toInt = 2001) (i27 : v12_places.toInt = 0) (i28 : v12_maps.toInt = 0) (i29 : v12_tapeMany.toInt = 0) (i30 : v12_stories.toInt = 0) (i31 : v12_bodies.toInt = 0) : Met l yX12_led wsX12_led ({ frames := 2, cells := 0, slots := 0, locals := 46 } : Room) (PcK D κ β [O12 a12 r12 v12_keptMany v12_done v12_sheets v12_holes v12_worms v12_laidMany v12_wanted v12_orderMany v12_firstOrder v12_lines v12_marks v12_dots v12_madeIn v12_bound v12_places v12_maps v12_tapeMany v12_stories v12_base v12_at v12_ends v12_fault v12_opened v12_bodies v12_ran v12_ownKind v12_ownNumber] sz [.ref a12, .int p1, .int p2]) (QiK D (fun (r : Int32) (u : Unit) => r.toInt = -1) (fun (u : Unit) => [O12 a12 r12 v12_keptMany v12_done v12_sheets v12_holes v12_worms v12_laidMany v12_wanted v12_orderMany v12_firstOrder v12_lines v12_marks v12_dots v12_madeIn v12_bound v12_places v12_maps v12_tapeMany v12_stories v12_base v12_at v12_ends v12_fault v12_opened v12_bodies v12_ran v12_ownKind v12_ownNumber]) [O12 a12 r12 v12_keptMany v12_done v12_sheets v12_holes v12_worms v12_laidMany v12_wanted v12_orderMany v12_firstOrder v12_lines v12_marks v12_dots v12_madeIn v12_bound v12_places v12_maps v12_tapeMany v12_stories v12_base v12_at v12_ends v12_fault v12_opened v12_bodies v12_ran v12_ownKind v12_ownNumber] sz) 0 0 (va_A [O12 a12 r12 v12_keptMany v12_done v12_sheets v12_holes v12_worms v12_laidMany v12_wanted v12_orderMany v12_firstOrder v12_lines v12_marks v12_dots v12_madeIn v12_bound v12_places v12_maps v12_tapeMany v12_stories v12_base v12_at v12_ends v12_fault v12_opened v12_bodies v12_ran v12_ownKind v12_ownNumber] sz) := by
  refine ofK_i (cc := cX12_led) (maxL := 3) (own := RX12) (by decide) rfl rfl (Nat.le_of_ble_eq_true rfl) ?_
  intro p e s m args below meth c Q A ls hsz hx hb hml hts hown hK hA hAB hP hD hl ret
  have hS : va_S A s.heap s.heap [] := va_S.rf
  have hl : lv_has ls 3 [(0, .ref a12), (1, .int p1), (2, .int p2)] := hl
  have l0 : (0 : Int32).toInt = 0 := by decide
  have l1 : ((-1) : Int32).toInt = -1 := by decide
  have i4 : 0 ≤ v12_holes.toInt ∧ v12_holes.toInt ≤ 40 := i4
  have i5 : 0 ≤ v12_worms.toInt ∧ v12_worms.toInt ≤ 40 := i5
  refine lv_aload_n hx hb dX12_led_0 rfl (lv_at hl 0 rfl) ?_
  refine lv_iload_n hx hb dX12_led_1 rfl (lv_at hl 1 rfl) ?_
  refine kcm_i hA hAB hP hD hS [true] rfl (fun _ => rfl) (fun hPc hDc => va_runV (As := [.int p1]) (rest := []) ⟨hx, hb, hml, hown, hts⟩ (k_X12_isHole l D κ β a12 r12 v12_keptMany v12_done v12_sheets v12_holes v12_worms v12_laidMany v12_wanted v12_orderMany v12_firstOrder v12_lines v12_marks v12_dots v12_madeIn v12_bound v12_places v12_maps v12_tapeMany v12_stories v12_base v12_at v12_ends v12_fault v12_opened v12_bodies v12_ran v12_ownKind v12_ownNumber s.heap.size p1 i1 i2 i3 i4 i5 i6 i7 i8 i9 i10 i11 i12 i13 i14 i15 i16 i17 (by omega) (by omega) (by omega) (by omega) (by omega) (by omega) (by omega) (by omega) (by omega) (by omega) (by omega) (by omega) (by omega) (by omega)) (cwV 1 hts gX12_led_X12_isHole rfl rfl rfl (by decide +kernel) ⟨Nat.le_of_ble_eq_true rfl, Nat.le_of_ble_eq_true rfl⟩) (pk_V hK hS hAB hPc hDc 0 (ci := 12) rfl rfl rfl) rfl rfl hl.1 rfl (lv_room (Nat.le_of_ble_eq_true rfl)) dX12_led_2 ⟨Nat.le_of_ble_eq_true rfl, Nat.le_of_ble_eq_true rfl⟩) (fun x1 u2 H locs hw hPD hS => ?_)
  have h3 : (x1.toInt = 1 ∧ 0 ≤ p1.toInt ∧ p1.toInt < v12_holes.toInt) ∨ (x1.toInt = 0 ∧ (p1.toInt < 0 ∨ v12_holes.toInt ≤ p1.toInt)) := hw
  obtain ⟨hP, hD⟩ : PD D A [O12 a12 r12 v12_keptMany v12_done v12_sheets v12_holes v12_worms v12_laidMany v12_wanted v12_orderMany v12_firstOrder v12_lines v12_marks v12_dots v12_madeIn v12_bound v12_places v12_maps v12_tapeMany v12_stories v12_base v12_at v12_ends v12_fault v12_opened v12_bodies v12_ran v12_ownKind v12_ownNumber] H := hPD
  refine lv_if_eq (tgt := 15) hx hb dX12_led_5 (by decide) (fun c4 => ?_) (fun c4 => ?_)
  · have c4 := ci_eq c4
    refine lv_iconst (v := (-1)) hx hb dX12_led_15 (by decide) ?_
    have hpo : ((-1) : Int32).toInt = -1 := (by omega)
    exact ret _ _ _ _ (-1) () dX12_led_16 hpo hP hD hS
  have c4 := ci_ne c4
  exfalso
  omega
set_option maxHeartbeats 4000000 in
set_option maxRecDepth 100000 in
theorem k_X12_line (l : Launch) (D : va_G) (κ : Nat → ClassId) (β : Nat) (a12 : Nat) (r12 : Nat → Nat) (v12_keptMany : Int32) (v12_done : Int32) (v12_sheets : Int32) (v12_holes : Int32) (v12_worms : Int32) (v12_laidMany : Int32) (v12_wanted : Int32) (v12_orderMany : Int32) (v12_firstOrder : Int32) (v12_lines : Int32) (v12_marks : Int32) (v12_dots : Int32) (v12_madeIn : Int32) (v12_bound : Int32) (v12_places : Int32) (v12_maps : Int32) (v12_tapeMany : Int32) (v12_stories : Int32) (v12_base : Int32) (v12_at : Int32) (v12_ends : Int32) (v12_fault : Int32) (v12_opened : Int32) (v12_bodies : Int32) (v12_ran : Int32) (v12_ownKind : Int32) (v12_ownNumber : Int32) (sz : Nat) (p1 : Int32) (p2 : Int32) (i1 : Rg 0 40 v12_keptMany) (i2 : Rg 0 40 v12_done) (i3 : Rg 0 8 v12_sheets) (i4 : Rg 0 40 v12_holes) (i5 : Rg 0 40 v12_worms) (i6 : Rg 0 8 v12_laidMany) (i7 : Rg 0 8 v12_wanted) (i8 : Rg 0 20 v12_lines) (i9 : Rg 0 60 v12_marks) (i10 : Rg 0 40 v12_dots) (i11 : Rg 0 20 v12_places) (i12 : Rg 0 8 v12_maps) (i13 : Rg 0 120 v12_tapeMany) (i14 : Rg 0 6 v12_stories) (i15 : Rg 0 50 v12_bodies) (i16 : Rg 0 1000 v12_ran) (i17 : v12_done.toInt ≤ v12_keptMany.toInt) (i18 : v12_keptMany.toInt = 0) (i19 : v12_done.toInt = 0) (i20 : v12_sheets.toInt = 0) (i21 : v12_holes.toInt = 0) (i22 : v12_worms.toInt = 0) (i23 : v12_lines.toInt = 0) (i24 : v12_marks.toInt = 0) (i25 : v12_dots.toInt = 0) (i26 : v12_madeIn.toInt = 2001) (i27 : v12_places.toInt = 0) (i28 : v12_maps.toInt = 0) (i29 : v12_tapeMany.toInt = 0) (i30 : v12_stories.toInt = 0) (i31 : v12_bodies.toInt = 0) : Met l yX12_line wsX12_line ({ frames := 2, cells := 0, slots := 0, locals := 46 } : Room) (PcK D κ β [O12 a12 r12 v12_keptMany v12_done v12_sheets v12_holes v12_worms v12_laidMany v12_wanted v12_orderMany v12_firstOrder v12_lines v12_marks v12_dots v12_madeIn v12_bound v12_places v12_maps v12_tapeMany v12_stories v12_base v12_at v12_ends v12_fault v12_opened v12_bodies v12_ran v12_ownKind v12_ownNumber] sz [.ref a12, .int p1, .int p2]) (QiK D (fun (r : Int32) (u : Unit) => r.toInt = -1) (fun (u : Unit) => [O12 a12 r12 v12_keptMany v12_done v12_sheets v12_holes v12_worms v12_laidMany v12_wanted v12_orderMany v12_firstOrder v12_lines v12_marks v12_dots v12_madeIn v12_bound v12_places v12_maps v12_tapeMany v12_stories v12_base v12_at v12_ends v12_fault v12_opened v12_bodies v12_ran v12_ownKind v12_ownNumber]) [O12 a12 r12 v12_keptMany v12_done v12_sheets v12_holes v12_worms v12_laidMany v12_wanted v12_orderMany v12_firstOrder v12_lines v12_marks v12_dots v12_madeIn v12_bound v12_places v12_maps v12_tapeMany v12_stories v12_base v12_at v12_ends v12_fault v12_opened v12_bodies v12_ran v12_ownKind v12_ownNumber] sz) 0 0 (va_A [O12 a12 r12 v12_keptMany v12_done v12_sheets v12_holes v12_worms v12_laidMany v12_wanted v12_orderMany v12_firstOrder v12_lines v12_marks v12_dots v12_madeIn v12_bound v12_places v12_maps v12_tapeMany v12_stories v12_base v12_at v12_ends v12_fault v12_opened v12_bodies v12_ran v12_ownKind v12_ownNumber] sz) := by
  refine ofK_i (cc := cX12_line) (maxL := 3) (own := RX12) (by decide) rfl rfl (Nat.le_of_ble_eq_true rfl) ?_
  intro p e s m args below meth c Q A ls hsz hx hb hml hts hown hK hA hAB hP hD hl ret
  have hS : va_S A s.heap s.heap [] := va_S.rf
  have hl : lv_has ls 3 [(0, .ref a12), (1, .int p1), (2, .int p2)] := hl
  have l0 : (0 : Int32).toInt = 0 := by decide
  have l1 : ((-1) : Int32).toInt = -1 := by decide
  have i3 : 0 ≤ v12_sheets.toInt ∧ v12_sheets.toInt ≤ 8 := i3
  have i8 : 0 ≤ v12_lines.toInt ∧ v12_lines.toInt ≤ 20 := i8
  refine lv_aload_n hx hb dX12_line_0 rfl (lv_at hl 0 rfl) ?_
  refine lv_iload_n hx hb dX12_line_1 rfl (lv_at hl 1 rfl) ?_
  refine kcm_i hA hAB hP hD hS [true] rfl (fun _ => rfl) (fun hPc hDc => va_runV (As := [.int p1]) (rest := []) ⟨hx, hb, hml, hown, hts⟩ (k_X12_isSheet l D κ β a12 r12 v12_keptMany v12_done v12_sheets v12_holes v12_worms v12_laidMany v12_wanted v12_orderMany v12_firstOrder v12_lines v12_marks v12_dots v12_madeIn v12_bound v12_places v12_maps v12_tapeMany v12_stories v12_base v12_at v12_ends v12_fault v12_opened v12_bodies v12_ran v12_ownKind v12_ownNumber s.heap.size p1 i1 i2 i3 i4 i5 i6 i7 i8 i9 i10 i11 i12 i13 i14 i15 i16 i17 (by omega) (by omega) (by omega) (by omega) (by omega) (by omega) (by omega) (by omega) (by omega) (by omega) (by omega) (by omega) (by omega) (by omega)) (cwV 1 hts gX12_line_X12_isSheet rfl rfl rfl (by decide +kernel) ⟨Nat.le_of_ble_eq_true rfl, Nat.le_of_ble_eq_true rfl⟩) (pk_V hK hS hAB hPc hDc 0 (ci := 12) rfl rfl rfl) rfl rfl hl.1 rfl (lv_room (Nat.le_of_ble_eq_true rfl)) dX12_line_2 ⟨Nat.le_of_ble_eq_true rfl, Nat.le_of_ble_eq_true rfl⟩) (fun x1 u2 H locs hw hPD hS => ?_)
  have h3 : (x1.toInt = 1 ∧ 0 ≤ p1.toInt ∧ p1.toInt < v12_sheets.toInt) ∨ (x1.toInt = 0 ∧ (p1.toInt < 0 ∨ v12_sheets.toInt ≤ p1.toInt)) := hw
  obtain ⟨hP, hD⟩ : PD D A [O12 a12 r12 v12_keptMany v12_done v12_sheets v12_holes v12_worms v12_laidMany v12_wanted v12_orderMany v12_firstOrder v12_lines v12_marks v12_dots v12_madeIn v12_bound v12_places v12_maps v12_tapeMany v12_stories v12_base v12_at v12_ends v12_fault v12_opened v12_bodies v12_ran v12_ownKind v12_ownNumber] H := hPD
  refine lv_if_eq (tgt := 15) hx hb dX12_line_5 (by decide) (fun c4 => ?_) (fun c4 => ?_)
  · have c4 := ci_eq c4
    refine lv_iconst (v := (-1)) hx hb dX12_line_15 (by decide) ?_
    have hpo : ((-1) : Int32).toInt = -1 := (by omega)
    exact ret _ _ _ _ (-1) () dX12_line_16 hpo hP hD hS
  have c4 := ci_ne c4
  exfalso
  omega
set_option maxHeartbeats 4000000 in
set_option maxRecDepth 100000 in
theorem k_X12_mark (l : Launch) (D : va_G) (κ : Nat → ClassId) (β : Nat) (a12 : Nat) (r12 : Nat → Nat) (v12_keptMany : Int32) (v12_done : Int32) (v12_sheets : Int32) (v12_holes : Int32) (v12_worms : Int32) (v12_laidMany : Int32) (v12_wanted : Int32) (v12_orderMany : Int32) (v12_firstOrder : Int32) (v12_lines : Int32) (v12_marks : Int32) (v12_dots : Int32) (v12_madeIn : Int32) (v12_bound : Int32) (v12_places : Int32) (v12_maps : Int32) (v12_tapeMany : Int32) (v12_stories : Int32) (v12_base : Int32) (v12_at : Int32) (v12_ends : Int32) (v12_fault : Int32) (v12_opened : Int32) (v12_bodies : Int32) (v12_ran : Int32) (v12_ownKind : Int32) (v12_ownNumber : Int32) (sz : Nat) (p1 : Int32) (p2 : Int32) (i1 : Rg 0 40 v12_keptMany) (i2 : Rg 0 40 v12_done) (i3 : Rg 0 8 v12_sheets) (i4 : Rg 0 40 v12_holes) (i5 : Rg 0 40 v12_worms) (i6 : Rg 0 8 v12_laidMany) (i7 : Rg 0 8 v12_wanted) (i8 : Rg 0 20 v12_lines) (i9 : Rg 0 60 v12_marks) (i10 : Rg 0 40 v12_dots) (i11 : Rg 0 20 v12_places) (i12 : Rg 0 8 v12_maps) (i13 : Rg 0 120 v12_tapeMany) (i14 : Rg 0 6 v12_stories) (i15 : Rg 0 50 v12_bodies) (i16 : Rg 0 1000 v12_ran) (i17 : v12_done.toInt ≤ v12_keptMany.toInt) (i18 : v12_keptMany.toInt = 0) (i19 : v12_done.toInt = 0) (i20 : v12_sheets.toInt = 0) (i21 : v12_holes.toInt = 0) (i22 : v12_worms.toInt = 0) (i23 : v12_lines.toInt = 0) (i24 : v12_marks.toInt = 0) (i25 : v12_dots.toInt = 0) (i26 : v12_madeIn.toInt = 2001) (i27 : v12_places.toInt = 0) (i28 : v12_maps.toInt = 0) (i29 : v12_tapeMany.toInt = 0) (i30 : v12_stories.toInt = 0) (i31 : v12_bodies.toInt = 0) : Met l yX12_mark wsX12_mark ({ frames := 1, cells := 0, slots := 0, locals := 25 } : Room) (PcK D κ β [O12 a12 r12 v12_keptMany v12_done v12_sheets v12_holes v12_worms v12_laidMany v12_wanted v12_orderMany v12_firstOrder v12_lines v12_marks v12_dots v12_madeIn v12_bound v12_places v12_maps v12_tapeMany v12_stories v12_base v12_at v12_ends v12_fault v12_opened v12_bodies v12_ran v12_ownKind v12_ownNumber] sz [.ref a12, .int p1, .int p2]) (QiK D (fun (r : Int32) (u : Unit) => r.toInt = -1) (fun (u : Unit) => [O12 a12 r12 v12_keptMany v12_done v12_sheets v12_holes v12_worms v12_laidMany v12_wanted v12_orderMany v12_firstOrder v12_lines v12_marks v12_dots v12_madeIn v12_bound v12_places v12_maps v12_tapeMany v12_stories v12_base v12_at v12_ends v12_fault v12_opened v12_bodies v12_ran v12_ownKind v12_ownNumber]) [O12 a12 r12 v12_keptMany v12_done v12_sheets v12_holes v12_worms v12_laidMany v12_wanted v12_orderMany v12_firstOrder v12_lines v12_marks v12_dots v12_madeIn v12_bound v12_places v12_maps v12_tapeMany v12_stories v12_base v12_at v12_ends v12_fault v12_opened v12_bodies v12_ran v12_ownKind v12_ownNumber] sz) 0 0 (va_A [O12 a12 r12 v12_keptMany v12_done v12_sheets v12_holes v12_worms v12_laidMany v12_wanted v12_orderMany v12_firstOrder v12_lines v12_marks v12_dots v12_madeIn v12_bound v12_places v12_maps v12_tapeMany v12_stories v12_base v12_at v12_ends v12_fault v12_opened v12_bodies v12_ran v12_ownKind v12_ownNumber] sz) := by
  refine ofK_i (cc := cX12_mark) (maxL := 4) (own := RX12) (by decide) rfl rfl (Nat.le_of_ble_eq_true rfl) ?_
  intro p e s m args below meth c Q A ls hsz hx hb hml hts hown hK hA hAB hP hD hl ret
  have hS : va_S A s.heap s.heap [] := va_S.rf
  have hl : lv_has ls 4 [(0, .ref a12), (1, .int p1), (2, .int p2)] := hl
  have w0 := hts (.fieldLink RX12 200 "OlderSkinModel" "lines" "I") (List.mem_of_getElem? (i := 1) rfl)
  have w1 := (fun w h => List.mem_cons_of_mem _ (List.mem_append_right _ h) : ∀ w ∈ u_ws RX12 TX12 63, w ∈ wsX12_mark)
  have l0 : (0 : Int32).toInt = 0 := by decide
  have l1 : ((-1) : Int32).toInt = -1 := by decide
  have l2 : (100 : Int32).toInt = 100 := by decide
  have l3 : (0 : Int64).toInt = 0 := by decide
  have l4 : (1 : Int32).toInt = 1 := by decide
  have i4 : 0 ≤ v12_holes.toInt ∧ v12_holes.toInt ≤ 40 := i4
  have i8 : 0 ≤ v12_lines.toInt ∧ v12_lines.toInt ≤ 20 := i8
  have i9 : 0 ≤ v12_marks.toInt ∧ v12_marks.toInt ≤ 60 := i9
  refine lv_iload_n hx hb dX12_mark_0 rfl (lv_at hl 1 rfl) ?_
  refine lv_if_lt (tgt := 65) hx hb dX12_mark_1 (by decide) (fun c1 => ?_) (fun c1 => ?_)
  · have c1 := ci_lt c1
    refine lv_iconst (v := (-1)) hx hb dX12_mark_65 (by decide) ?_
    have hpo : ((-1) : Int32).toInt = -1 := (by omega)
    exact ret _ _ _ _ (-1) () dX12_mark_66 hpo hP hD hS
  have c1 := ci_nlt c1
  refine lv_iload_n hx hb dX12_mark_4 rfl (lv_at hl 1 rfl) ?_
  refine lv_bipush (v := 100) hx hb dX12_mark_5 (by decide) ?_
  refine lv_idiv hx hb dX12_mark_7 (by decide) ?_
  refine lv_topi (fun x2 e3 => ?_)
  have h4 := ci_divL (n := 100) (by decide) (by decide) e3
  refine lv_i2l hx hb dX12_mark_8 rfl ?_
  refine lv_topl (fun x5 e6 => ?_)
  have h7 : x5.toInt = x2.toInt := cl_i2l e6
  refine lv_lconst (v := (0 : Int64)) hx hb dX12_mark_9 (by decide) ?_
  refine lv_aload_n hx hb dX12_mark_10 rfl (lv_at hl 0 rfl) ?_
  refine va_get (D := D) (ci := 12) (v := .int v12_lines) (C := RX12) (T := TX12) (N := 63) hx hb hts w1 hown hK.1 hP 0 rfl rfl 20 (by decide) w0 (fun _ h9 => h9) rfl dX12_mark_11 ?_
  refine lv_iconst (v := 1) hx hb dX12_mark_14 (by decide) ?_
  refine lv_isub hx hb dX12_mark_15 ?_
  refine lv_topi (fun x8 e9 => ?_)
  try have h10 : x8.toInt = v12_lines.toInt - (1 : Int32).toInt := ci_sub e9 (by omega) (by omega)
  refine lv_i2l hx hb dX12_mark_16 rfl ?_
  refine lv_topl (fun x11 e12 => ?_)
  have h13 : x11.toInt = x8.toInt := cl_i2l e12
  refine kcm_i hA hAB hP hD hS [false] rfl (fun _ => rfl) (fun hPc hDc => va_runS (As := [.long x5, .long (0 : Int64), .long x11]) (rest := []) ⟨hx, hb, hml, hown, hts⟩ (k_X12_within l D κ β s.heap.size x5 (0 : Int64) x11) (va_cwS 3 hts gX12_mark_X12_within rfl rfl rfl (by decide +kernel) ⟨Nat.le_of_ble_eq_true rfl, Nat.le_of_ble_eq_true rfl⟩) (pk_S hK hS hAB hPc hDc) rfl rfl hl.1 rfl (lv_room (Nat.le_of_ble_eq_true rfl)) dX12_mark_17 ⟨Nat.le_of_ble_eq_true rfl, Nat.le_of_ble_eq_true rfl⟩) (fun x14 u15 H locs hw hPD hS => ?_)
  have h16 : (x14.toInt = 1 ∧ (0 : Int64).toInt ≤ x5.toInt ∧ x5.toInt ≤ x11.toInt) ∨ (x14.toInt = 0 ∧ (x5.toInt < (0 : Int64).toInt ∨ x11.toInt < x5.toInt)) := hw
  obtain ⟨hP, hD⟩ : PD D A [O12 a12 r12 v12_keptMany v12_done v12_sheets v12_holes v12_worms v12_laidMany v12_wanted v12_orderMany v12_firstOrder v12_lines v12_marks v12_dots v12_madeIn v12_bound v12_places v12_maps v12_tapeMany v12_stories v12_base v12_at v12_ends v12_fault v12_opened v12_bodies v12_ran v12_ownKind v12_ownNumber] H := hPD
  refine lv_if_eq (tgt := 65) hx hb dX12_mark_20 (by decide) (fun c17 => ?_) (fun c17 => ?_)
  · have c17 := ci_eq c17
    refine lv_iconst (v := (-1)) hx hb dX12_mark_65 (by decide) ?_
    have hpo : ((-1) : Int32).toInt = -1 := (by omega)
    exact ret _ _ _ _ (-1) () dX12_mark_66 hpo hP hD hS
  have c17 := ci_ne c17
  exfalso
  omega
set_option maxHeartbeats 4000000 in
set_option maxRecDepth 100000 in
theorem k_X12_has (l : Launch) (D : va_G) (κ : Nat → ClassId) (β : Nat) (a12 : Nat) (r12 : Nat → Nat) (v12_keptMany : Int32) (v12_done : Int32) (v12_sheets : Int32) (v12_holes : Int32) (v12_worms : Int32) (v12_laidMany : Int32) (v12_wanted : Int32) (v12_orderMany : Int32) (v12_firstOrder : Int32) (v12_lines : Int32) (v12_marks : Int32) (v12_dots : Int32) (v12_madeIn : Int32) (v12_bound : Int32) (v12_places : Int32) (v12_maps : Int32) (v12_tapeMany : Int32) (v12_stories : Int32) (v12_base : Int32) (v12_at : Int32) (v12_ends : Int32) (v12_fault : Int32) (v12_opened : Int32) (v12_bodies : Int32) (v12_ran : Int32) (v12_ownKind : Int32) (v12_ownNumber : Int32) (sz : Nat) (p1 : Int32) (p2 : Int32) (p3 : Int32) (p4 : Int32) (i1 : Rg 0 40 v12_keptMany) (i2 : Rg 0 40 v12_done) (i3 : Rg 0 8 v12_sheets) (i4 : Rg 0 40 v12_holes) (i5 : Rg 0 40 v12_worms) (i6 : Rg 0 8 v12_laidMany) (i7 : Rg 0 8 v12_wanted) (i8 : Rg 0 20 v12_lines) (i9 : Rg 0 60 v12_marks) (i10 : Rg 0 40 v12_dots) (i11 : Rg 0 20 v12_places) (i12 : Rg 0 8 v12_maps) (i13 : Rg 0 120 v12_tapeMany) (i14 : Rg 0 6 v12_stories) (i15 : Rg 0 50 v12_bodies) (i16 : Rg 0 1000 v12_ran) (i17 : v12_done.toInt ≤ v12_keptMany.toInt) (i18 : (1 : Int) ≤ 0) : Met l yX12_has wsX12_has ({ frames := 1, cells := 0, slots := 0, locals := 30 } : Room) (PcK D κ β [O12 a12 r12 v12_keptMany v12_done v12_sheets v12_holes v12_worms v12_laidMany v12_wanted v12_orderMany v12_firstOrder v12_lines v12_marks v12_dots v12_madeIn v12_bound v12_places v12_maps v12_tapeMany v12_stories v12_base v12_at v12_ends v12_fault v12_opened v12_bodies v12_ran v12_ownKind v12_ownNumber] sz [.ref a12, .int p1, .int p2, .int p3, .int p4]) (QiK D (fun (r : Int32) (u : Unit) => r.toInt = 0 ∨ r.toInt = 1) (fun (u : Unit) => [O12 a12 r12 v12_keptMany v12_done v12_sheets v12_holes v12_worms v12_laidMany v12_wanted v12_orderMany v12_firstOrder v12_lines v12_marks v12_dots v12_madeIn v12_bound v12_places v12_maps v12_tapeMany v12_stories v12_base v12_at v12_ends v12_fault v12_opened v12_bodies v12_ran v12_ownKind v12_ownNumber]) [O12 a12 r12 v12_keptMany v12_done v12_sheets v12_holes v12_worms v12_laidMany v12_wanted v12_orderMany v12_firstOrder v12_lines v12_marks v12_dots v12_madeIn v12_bound v12_places v12_maps v12_tapeMany v12_stories v12_base v12_at v12_ends v12_fault v12_opened v12_bodies v12_ran v12_ownKind v12_ownNumber] sz) 0 0 (va_A [O12 a12 r12 v12_keptMany v12_done v12_sheets v12_holes v12_worms v12_laidMany v12_wanted v12_orderMany v12_firstOrder v12_lines v12_marks v12_dots v12_madeIn v12_bound v12_places v12_maps v12_tapeMany v12_stories v12_base v12_at v12_ends v12_fault v12_opened v12_bodies v12_ran v12_ownKind v12_ownNumber] sz) := by
  refine ofK_z (cc := cX12_has) (maxL := 7) (own := RX12) (by decide) rfl rfl (Nat.le_of_ble_eq_true rfl) ?_
  intro p e s m args below meth c Q A ls hsz hx hb hml hts hown hK hA hAB hP hD hl ret
  have hS : va_S A s.heap s.heap [] := va_S.rf
  have hl : lv_has ls 7 [(0, .ref a12), (1, .int p1), (2, .int p2), (3, .int p3), (4, .int p4)] := hl
  have i9 : 0 ≤ v12_marks.toInt ∧ v12_marks.toInt ≤ 60 := i9
  exfalso
  omega
set_option maxHeartbeats 4000000 in
set_option maxRecDepth 100000 in
theorem k_X12_fight (l : Launch) (D : va_G) (κ : Nat → ClassId) (β : Nat) (a12 : Nat) (r12 : Nat → Nat) (v12_keptMany : Int32) (v12_done : Int32) (v12_sheets : Int32) (v12_holes : Int32) (v12_worms : Int32) (v12_laidMany : Int32) (v12_wanted : Int32) (v12_orderMany : Int32) (v12_firstOrder : Int32) (v12_lines : Int32) (v12_marks : Int32) (v12_dots : Int32) (v12_madeIn : Int32) (v12_bound : Int32) (v12_places : Int32) (v12_maps : Int32) (v12_tapeMany : Int32) (v12_stories : Int32) (v12_base : Int32) (v12_at : Int32) (v12_ends : Int32) (v12_fault : Int32) (v12_opened : Int32) (v12_bodies : Int32) (v12_ran : Int32) (v12_ownKind : Int32) (v12_ownNumber : Int32) (sz : Nat) (p1 : Int32) (p2 : Int32) (i1 : Rg 0 40 v12_keptMany) (i2 : Rg 0 40 v12_done) (i3 : Rg 0 8 v12_sheets) (i4 : Rg 0 40 v12_holes) (i5 : Rg 0 40 v12_worms) (i6 : Rg 0 8 v12_laidMany) (i7 : Rg 0 8 v12_wanted) (i8 : Rg 0 20 v12_lines) (i9 : Rg 0 60 v12_marks) (i10 : Rg 0 40 v12_dots) (i11 : Rg 0 20 v12_places) (i12 : Rg 0 8 v12_maps) (i13 : Rg 0 120 v12_tapeMany) (i14 : Rg 0 6 v12_stories) (i15 : Rg 0 50 v12_bodies) (i16 : Rg 0 1000 v12_ran) (i17 : v12_done.toInt ≤ v12_keptMany.toInt) (i18 : v12_keptMany.toInt = 0) (i19 : v12_done.toInt = 0) (i20 : v12_sheets.toInt = 0) (i21 : v12_holes.toInt = 0) (i22 : v12_worms.toInt = 0) (i23 : v12_lines.toInt = 0) (i24 : v12_marks.toInt = 0) (i25 : v12_dots.toInt = 0) (i26 : v12_madeIn.toInt = 2001) (i27 : v12_places.toInt = 0) (i28 : v12_maps.toInt = 0) (i29 : v12_tapeMany.toInt = 0) (i30 : v12_stories.toInt = 0) (i31 : v12_bodies.toInt = 0) : Met l yX12_fight wsX12_fight ({ frames := 2, cells := 0, slots := 0, locals := 45 } : Room) (PcK D κ β [O12 a12 r12 v12_keptMany v12_done v12_sheets v12_holes v12_worms v12_laidMany v12_wanted v12_orderMany v12_firstOrder v12_lines v12_marks v12_dots v12_madeIn v12_bound v12_places v12_maps v12_tapeMany v12_stories v12_base v12_at v12_ends v12_fault v12_opened v12_bodies v12_ran v12_ownKind v12_ownNumber] sz [.ref a12, .int p1, .int p2]) (QiK D (fun (r : Int32) (u : Int32) => (0 ≤ u.toInt ∧ u.toInt ≤ 40) ∧ (((0 ≤ p1.toInt ∧ p1.toInt ≤ 99 ∧ 0 ≤ p2.toInt ∧ p2.toInt ≤ 1) ∧ r.toInt = -2) ∨ (¬ (0 ≤ p1.toInt ∧ p1.toInt ≤ 99 ∧ 0 ≤ p2.toInt ∧ p2.toInt ≤ 1) ∧ r.toInt = -1))) (fun (u : Int32) => [O12 a12 r12 v12_keptMany v12_done v12_sheets v12_holes u v12_laidMany v12_wanted v12_orderMany v12_firstOrder v12_lines v12_marks v12_dots v12_madeIn v12_bound v12_places v12_maps v12_tapeMany v12_stories v12_base v12_at v12_ends v12_fault v12_opened v12_bodies v12_ran v12_ownKind v12_ownNumber]) [O12 a12 r12 v12_keptMany v12_done v12_sheets v12_holes v12_worms v12_laidMany v12_wanted v12_orderMany v12_firstOrder v12_lines v12_marks v12_dots v12_madeIn v12_bound v12_places v12_maps v12_tapeMany v12_stories v12_base v12_at v12_ends v12_fault v12_opened v12_bodies v12_ran v12_ownKind v12_ownNumber] sz) 0 0 (va_A [O12 a12 r12 v12_keptMany v12_done v12_sheets v12_holes v12_worms v12_laidMany v12_wanted v12_orderMany v12_firstOrder v12_lines v12_marks v12_dots v12_madeIn v12_bound v12_places v12_maps v12_tapeMany v12_stories v12_base v12_at v12_ends v12_fault v12_opened v12_bodies v12_ran v12_ownKind v12_ownNumber] sz) := by
  refine ofK_i (cc := cX12_fight) (maxL := 5) (own := RX12) (by decide) rfl rfl (Nat.le_of_ble_eq_true rfl) ?_
  intro p e s m args below meth c Q A ls hsz hx hb hml hts hown hK hA hAB hP hD hl ret
  have hS : va_S A s.heap s.heap [] := va_S.rf
  have hl : lv_has ls 5 [(0, .ref a12), (1, .int p1), (2, .int p2)] := hl
  have w0 := hts (.fieldLink RX12 200 "OlderSkinModel" "lines" "I") (List.mem_of_getElem? (i := 1) rfl)
  have w1 := (fun w h => List.mem_cons_of_mem _ (List.mem_append_right _ h) : ∀ w ∈ u_ws RX12 TX12 63, w ∈ wsX12_fight)
  have l0 : (0 : Int32).toInt = 0 := by decide
  have l1 : ((-1) : Int32).toInt = -1 := by decide
  have l2 : (0 : Int64).toInt = 0 := by decide
  have l3 : (1 : Int64).toInt = 1 := by decide
  have l4 : ((-2) : Int32).toInt = -2 := by decide
  have i5 : 0 ≤ v12_worms.toInt ∧ v12_worms.toInt ≤ 40 := i5
  have i8 : 0 ≤ v12_lines.toInt ∧ v12_lines.toInt ≤ 20 := i8
  refine lv_iload_n hx hb dX12_fight_0 rfl (lv_at hl 1 rfl) ?_
  refine kcm_i hA hAB hP hD hS [false] rfl (fun _ => rfl) (fun hPc hDc => va_runS (As := [.int p1]) (rest := []) ⟨hx, hb, hml, hown, hts⟩ (k_X12_isSlack l D κ β s.heap.size p1) (va_cwS 1 hts gX12_fight_X12_isSlack rfl rfl rfl (by decide +kernel) ⟨Nat.le_of_ble_eq_true rfl, Nat.le_of_ble_eq_true rfl⟩) (pk_S hK hS hAB hPc hDc) rfl rfl hl.1 rfl (lv_room (Nat.le_of_ble_eq_true rfl)) dX12_fight_1 ⟨Nat.le_of_ble_eq_true rfl, Nat.le_of_ble_eq_true rfl⟩) (fun x1 u2 H locs hw hPD hS => ?_)
  have h3 : (x1.toInt = 1 ∧ 0 ≤ p1.toInt ∧ p1.toInt ≤ 99) ∨ (x1.toInt = 0 ∧ (p1.toInt < 0 ∨ 99 < p1.toInt)) := hw
  obtain ⟨hP, hD⟩ : PD D A [O12 a12 r12 v12_keptMany v12_done v12_sheets v12_holes v12_worms v12_laidMany v12_wanted v12_orderMany v12_firstOrder v12_lines v12_marks v12_dots v12_madeIn v12_bound v12_places v12_maps v12_tapeMany v12_stories v12_base v12_at v12_ends v12_fault v12_opened v12_bodies v12_ran v12_ownKind v12_ownNumber] H := hPD
  refine lv_if_eq (tgt := 17) hx hb dX12_fight_4 (by decide) (fun c4 => ?_) (fun c4 => ?_)
  · have c4 := ci_eq c4
    refine lv_iconst (v := (-1)) hx hb dX12_fight_17 (by decide) ?_
    have hpo : (0 ≤ v12_worms.toInt ∧ v12_worms.toInt ≤ 40) ∧ (((0 ≤ p1.toInt ∧ p1.toInt ≤ 99 ∧ 0 ≤ p2.toInt ∧ p2.toInt ≤ 1) ∧ ((-1) : Int32).toInt = -2) ∨ (¬ (0 ≤ p1.toInt ∧ p1.toInt ≤ 99 ∧ 0 ≤ p2.toInt ∧ p2.toInt ≤ 1) ∧ ((-1) : Int32).toInt = -1)) := ⟨i5, (by omega)⟩
    exact ret _ _ _ _ (-1) v12_worms dX12_fight_18 hpo hP hD hS
  have c4 := ci_ne c4
  refine lv_iload_n hx hb dX12_fight_7 rfl (lv_at hl 2 rfl) ?_
  refine lv_i2l hx hb dX12_fight_8 rfl ?_
  refine lv_topl (fun x5 e6 => ?_)
  have h7 : x5.toInt = p2.toInt := cl_i2l e6
  refine lv_lconst (v := (0 : Int64)) hx hb dX12_fight_9 (by decide) ?_
  refine lv_lconst (v := (1 : Int64)) hx hb dX12_fight_10 (by decide) ?_
  refine kcm_i hA hAB hP hD hS [false] rfl (fun _ => rfl) (fun hPc hDc => va_runS (As := [.long x5, .long (0 : Int64), .long (1 : Int64)]) (rest := []) ⟨hx, hb, hml, hown, hts⟩ (k_X12_within l D κ β H.size x5 (0 : Int64) (1 : Int64)) (va_cwS 3 hts gX12_fight_X12_within rfl rfl rfl (by decide +kernel) ⟨Nat.le_of_ble_eq_true rfl, Nat.le_of_ble_eq_true rfl⟩) (pk_S hK hS hAB hPc hDc) rfl rfl hl.1 rfl (lv_room (Nat.le_of_ble_eq_true rfl)) dX12_fight_11 ⟨Nat.le_of_ble_eq_true rfl, Nat.le_of_ble_eq_true rfl⟩) (fun x8 u9 H locs hw hPD hS => ?_)
  have h10 : (x8.toInt = 1 ∧ (0 : Int64).toInt ≤ x5.toInt ∧ x5.toInt ≤ (1 : Int64).toInt) ∨ (x8.toInt = 0 ∧ (x5.toInt < (0 : Int64).toInt ∨ (1 : Int64).toInt < x5.toInt)) := hw
  obtain ⟨hP, hD⟩ : PD D A [O12 a12 r12 v12_keptMany v12_done v12_sheets v12_holes v12_worms v12_laidMany v12_wanted v12_orderMany v12_firstOrder v12_lines v12_marks v12_dots v12_madeIn v12_bound v12_places v12_maps v12_tapeMany v12_stories v12_base v12_at v12_ends v12_fault v12_opened v12_bodies v12_ran v12_ownKind v12_ownNumber] H := hPD
  refine lv_if_ne (tgt := 19) hx hb dX12_fight_14 (by decide) (fun c11 => ?_) (fun c11 => ?_)
  · have c11 := ci_ne c11
    refine lv_aload_n hx hb dX12_fight_19 rfl (lv_at hl 0 rfl) ?_
    refine lv_iload_n hx hb dX12_fight_20 rfl (lv_at hl 1 rfl) ?_
    refine lv_iconst (v := (-1)) hx hb dX12_fight_21 (by decide) ?_
    refine kcm_v hA hAB hP hD hS [true] rfl (fun _ => rfl) (fun hPc hDc => va_runV (As := [.int p1, .int (-1)]) (rest := []) ⟨hx, hb, hml, hown, hts⟩ (k_X12_findWorms l D κ β a12 r12 v12_keptMany v12_done v12_sheets v12_holes v12_worms v12_laidMany v12_wanted v12_orderMany v12_firstOrder v12_lines v12_marks v12_dots v12_madeIn v12_bound v12_places v12_maps v12_tapeMany v12_stories v12_base v12_at v12_ends v12_fault v12_opened v12_bodies v12_ran v12_ownKind v12_ownNumber H.size p1 (-1) i1 i2 i3 i4 i5 i6 i7 i8 i9 i10 i11 i12 i13 i14 i15 i16 i17 (by omega) (by omega) (by omega) (by omega) (by omega) (by omega) (by omega) (by omega) (by omega) (by omega) (by omega) (by omega) (by omega) (by omega)) (cwV 2 hts gX12_fight_X12_findWorms rfl rfl rfl (by decide +kernel) ⟨Nat.le_of_ble_eq_true rfl, Nat.le_of_ble_eq_true rfl⟩) (pk_V hK hS hAB hPc hDc 0 (ci := 12) rfl rfl rfl) rfl rfl hl.1 rfl (lv_room (Nat.le_of_ble_eq_true rfl)) dX12_fight_22 ⟨Nat.le_of_ble_eq_true rfl, Nat.le_of_ble_eq_true rfl⟩) (fun x12 H locs hw hPD hS => ?_)
    obtain ⟨h13, h14⟩ : (0 ≤ x12.toInt ∧ x12.toInt ≤ 40) ∧ (x12.toInt = 0) := hw
    obtain ⟨hP, hD⟩ : PD D A [O12 a12 r12 v12_keptMany v12_done v12_sheets v12_holes x12 v12_laidMany v12_wanted v12_orderMany v12_firstOrder v12_lines v12_marks v12_dots v12_madeIn v12_bound v12_places v12_maps v12_tapeMany v12_stories v12_base v12_at v12_ends v12_fault v12_opened v12_bodies v12_ran v12_ownKind v12_ownNumber] H := hPD
    refine lv_iconst (v := 0) hx hb dX12_fight_25 (by decide) ?_
    refine lv_istore_n (lv' := [(3, .int 0), (0, .ref a12), (1, .int p1), (2, .int p2)]) hx hb dX12_fight_26 rfl hl (by decide) rfl (fun ls hl => ?_)
    have lp27 : ∀ (n27 : Nat), (0 ≤ (0 : Int32).toInt) → (v12_lines.toInt - (0 : Int32).toInt).toNat < n27 → ∀ (H : Heap) (locs : List Loc), va_P D vwCl [O12 a12 r12 v12_keptMany v12_done v12_sheets v12_holes x12 v12_laidMany v12_wanted v12_orderMany v12_firstOrder v12_lines v12_marks v12_dots v12_madeIn v12_bound v12_places v12_maps v12_tapeMany v12_stories v12_base v12_at v12_ends v12_fault v12_opened v12_bodies v12_ran v12_ownKind v12_ownNumber] H → va_D A [O12 a12 r12 v12_keptMany v12_done v12_sheets v12_holes x12 v12_laidMany v12_wanted v12_orderMany v12_firstOrder v12_lines v12_marks v12_dots v12_madeIn v12_bound v12_places v12_maps v12_tapeMany v12_stories v12_base v12_at v12_ends v12_fault v12_opened v12_bodies v12_ran v12_ownKind v12_ownNumber] → va_S A s.heap H locs → ∀ ls : Array Slot, lv_has ls 5 [(3, .int 0), (0, .ref a12), (1, .int p1), (2, .int p2)] → W p l e ({ frames := 2, cells := 0, slots := 0, locals := 45 } : Room) s m args below meth c H locs 0 0 Q (F0 m 27 ls []) := by
      intro n27
      induction n27 with
      | zero =>
        intro h15 m16
        exact absurd m16 (Nat.not_lt_zero _)
      | succ n27 ih27 =>
        intro h15 m16 H locs hP hD hS ls hl
        refine lv_iload_n hx hb dX12_fight_27 rfl (lv_at hl 0 rfl) ?_
        refine lv_aload_n hx hb dX12_fight_28 rfl (lv_at hl 1 rfl) ?_
        refine va_get (D := D) (ci := 12) (v := .int v12_lines) (C := RX12) (T := TX12) (N := 63) hx hb hts w1 hown hK.1 hP 0 rfl rfl 20 (by decide) w0 (fun _ h9 => h9) rfl dX12_fight_29 ?_
        refine lv_icmp_ge (tgt := 99) hx hb dX12_fight_32 (by decide) (fun c17 => ?_) (fun c17 => ?_)
        · have c17 := ci_le c17
          refine lv_bipush (v := (-2)) hx hb dX12_fight_99 (by decide) ?_
          have hpo : (0 ≤ x12.toInt ∧ x12.toInt ≤ 40) ∧ (((0 ≤ p1.toInt ∧ p1.toInt ≤ 99 ∧ 0 ≤ p2.toInt ∧ p2.toInt ≤ 1) ∧ ((-2) : Int32).toInt = -2) ∨ (¬ (0 ≤ p1.toInt ∧ p1.toInt ≤ 99 ∧ 0 ≤ p2.toInt ∧ p2.toInt ≤ 1) ∧ ((-2) : Int32).toInt = -1)) := ⟨h13, (by omega)⟩
          exact ret _ _ _ _ (-2) x12 dX12_fight_101 hpo hP hD hS
        have c17 := ci_nle c17
        exfalso
        omega
    exact lp27 ((v12_lines.toInt - (0 : Int32).toInt).toNat + 1) (by omega) (by omega) _ _ hP hD hS _ hl
  have c11 := ci_eq c11
  refine lv_iconst (v := (-1)) hx hb dX12_fight_17 (by decide) ?_
  have hpo : (0 ≤ v12_worms.toInt ∧ v12_worms.toInt ≤ 40) ∧ (((0 ≤ p1.toInt ∧ p1.toInt ≤ 99 ∧ 0 ≤ p2.toInt ∧ p2.toInt ≤ 1) ∧ ((-1) : Int32).toInt = -2) ∨ (¬ (0 ≤ p1.toInt ∧ p1.toInt ≤ 99 ∧ 0 ≤ p2.toInt ∧ p2.toInt ≤ 1) ∧ ((-1) : Int32).toInt = -1)) := ⟨i5, (by omega)⟩
  exact ret _ _ _ _ (-1) v12_worms dX12_fight_18 hpo hP hD hS
set_option maxHeartbeats 4000000 in
set_option maxRecDepth 100000 in
theorem k_X12_cameFirst (l : Launch) (D : va_G) (κ : Nat → ClassId) (β : Nat) (a12 : Nat) (r12 : Nat → Nat) (v12_keptMany : Int32) (v12_done : Int32) (v12_sheets : Int32) (v12_holes : Int32) (v12_worms : Int32) (v12_laidMany : Int32) (v12_wanted : Int32) (v12_orderMany : Int32) (v12_firstOrder : Int32) (v12_lines : Int32) (v12_marks : Int32) (v12_dots : Int32) (v12_madeIn : Int32) (v12_bound : Int32) (v12_places : Int32) (v12_maps : Int32) (v12_tapeMany : Int32) (v12_stories : Int32) (v12_base : Int32) (v12_at : Int32) (v12_ends : Int32) (v12_fault : Int32) (v12_opened : Int32) (v12_bodies : Int32) (v12_ran : Int32) (v12_ownKind : Int32) (v12_ownNumber : Int32) (sz : Nat) (p1 : Int32) (p2 : Int32) (i1 : Rg 0 40 v12_keptMany) (i2 : Rg 0 40 v12_done) (i3 : Rg 0 8 v12_sheets) (i4 : Rg 0 40 v12_holes) (i5 : Rg 0 40 v12_worms) (i6 : Rg 0 8 v12_laidMany) (i7 : Rg 0 8 v12_wanted) (i8 : Rg 0 20 v12_lines) (i9 : Rg 0 60 v12_marks) (i10 : Rg 0 40 v12_dots) (i11 : Rg 0 20 v12_places) (i12 : Rg 0 8 v12_maps) (i13 : Rg 0 120 v12_tapeMany) (i14 : Rg 0 6 v12_stories) (i15 : Rg 0 50 v12_bodies) (i16 : Rg 0 1000 v12_ran) (i17 : v12_done.toInt ≤ v12_keptMany.toInt) (i18 : v12_keptMany.toInt = 0) (i19 : v12_done.toInt = 0) (i20 : v12_sheets.toInt = 0) (i21 : v12_holes.toInt = 0) (i22 : v12_worms.toInt = 0) (i23 : v12_lines.toInt = 0) (i24 : v12_marks.toInt = 0) (i25 : v12_dots.toInt = 0) (i26 : v12_madeIn.toInt = 2001) (i27 : v12_places.toInt = 0) (i28 : v12_maps.toInt = 0) (i29 : v12_tapeMany.toInt = 0) (i30 : v12_stories.toInt = 0) (i31 : v12_bodies.toInt = 0) : Met l yX12_cameFirst wsX12_cameFirst ({ frames := 0, cells := 0, slots := 0, locals := 0 } : Room) (PcK D κ β [O12 a12 r12 v12_keptMany v12_done v12_sheets v12_holes v12_worms v12_laidMany v12_wanted v12_orderMany v12_firstOrder v12_lines v12_marks v12_dots v12_madeIn v12_bound v12_places v12_maps v12_tapeMany v12_stories v12_base v12_at v12_ends v12_fault v12_opened v12_bodies v12_ran v12_ownKind v12_ownNumber] sz [.ref a12, .int p1, .int p2]) (QiK D (fun (r : Int32) (u : Unit) => r.toInt = 0) (fun (u : Unit) => [O12 a12 r12 v12_keptMany v12_done v12_sheets v12_holes v12_worms v12_laidMany v12_wanted v12_orderMany v12_firstOrder v12_lines v12_marks v12_dots v12_madeIn v12_bound v12_places v12_maps v12_tapeMany v12_stories v12_base v12_at v12_ends v12_fault v12_opened v12_bodies v12_ran v12_ownKind v12_ownNumber]) [O12 a12 r12 v12_keptMany v12_done v12_sheets v12_holes v12_worms v12_laidMany v12_wanted v12_orderMany v12_firstOrder v12_lines v12_marks v12_dots v12_madeIn v12_bound v12_places v12_maps v12_tapeMany v12_stories v12_base v12_at v12_ends v12_fault v12_opened v12_bodies v12_ran v12_ownKind v12_ownNumber] sz) 0 0 (va_A [O12 a12 r12 v12_keptMany v12_done v12_sheets v12_holes v12_worms v12_laidMany v12_wanted v12_orderMany v12_firstOrder v12_lines v12_marks v12_dots v12_madeIn v12_bound v12_places v12_maps v12_tapeMany v12_stories v12_base v12_at v12_ends v12_fault v12_opened v12_bodies v12_ran v12_ownKind v12_ownNumber] sz) := by
  refine ofK_z (cc := cX12_cameFirst) (maxL := 4) (own := RX12) (by decide) rfl rfl (Nat.le_of_ble_eq_true rfl) ?_
  intro p e s m args below meth c Q A ls hsz hx hb hml hts hown hK hA hAB hP hD hl ret
  have hS : va_S A s.heap s.heap [] := va_S.rf
  have hl : lv_has ls 4 [(0, .ref a12), (1, .int p1), (2, .int p2)] := hl
  have w0 := hts (.fieldLink RX12 160 "OlderSkinModel" "worms" "I") (List.mem_of_getElem? (i := 1) rfl)
  have w1 := (fun w h => List.mem_cons_of_mem _ (List.mem_append_right _ h) : ∀ w ∈ u_ws RX12 TX12 63, w ∈ wsX12_cameFirst)
  have l0 : (0 : Int32).toInt = 0 := by decide
  have i5 : 0 ≤ v12_worms.toInt ∧ v12_worms.toInt ≤ 40 := i5
  refine lv_iconst (v := 0) hx hb dX12_cameFirst_0 (by decide) ?_
  refine lv_istore_n (lv' := [(3, .int 0), (0, .ref a12), (1, .int p1), (2, .int p2)]) hx hb dX12_cameFirst_1 rfl hl (by decide) rfl (fun ls hl => ?_)
  have lp2 : ∀ (n2 : Nat), (0 ≤ (0 : Int32).toInt) → (v12_worms.toInt - (0 : Int32).toInt).toNat < n2 → ∀ (H : Heap) (locs : List Loc), va_P D vwCl [O12 a12 r12 v12_keptMany v12_done v12_sheets v12_holes v12_worms v12_laidMany v12_wanted v12_orderMany v12_firstOrder v12_lines v12_marks v12_dots v12_madeIn v12_bound v12_places v12_maps v12_tapeMany v12_stories v12_base v12_at v12_ends v12_fault v12_opened v12_bodies v12_ran v12_ownKind v12_ownNumber] H → va_D A [O12 a12 r12 v12_keptMany v12_done v12_sheets v12_holes v12_worms v12_laidMany v12_wanted v12_orderMany v12_firstOrder v12_lines v12_marks v12_dots v12_madeIn v12_bound v12_places v12_maps v12_tapeMany v12_stories v12_base v12_at v12_ends v12_fault v12_opened v12_bodies v12_ran v12_ownKind v12_ownNumber] → va_S A s.heap H locs → ∀ ls : Array Slot, lv_has ls 4 [(3, .int 0), (0, .ref a12), (1, .int p1), (2, .int p2)] → W p l e ({ frames := 0, cells := 0, slots := 0, locals := 0 } : Room) s m args below meth c H locs 0 0 Q (F0 m 2 ls []) := by
    intro n2
    induction n2 with
    | zero =>
      intro h1 m2
      exact absurd m2 (Nat.not_lt_zero _)
    | succ n2 ih2 =>
      intro h1 m2 H locs hP hD hS ls hl
      refine lv_iload_n hx hb dX12_cameFirst_2 rfl (lv_at hl 0 rfl) ?_
      refine lv_aload_n hx hb dX12_cameFirst_3 rfl (lv_at hl 1 rfl) ?_
      refine va_get (D := D) (ci := 12) (v := .int v12_worms) (C := RX12) (T := TX12) (N := 63) hx hb hts w1 hown hK.1 hP 0 rfl rfl 13 (by decide) w0 (fun _ h9 => h9) rfl dX12_cameFirst_4 ?_
      refine lv_icmp_ge (tgt := 40) hx hb dX12_cameFirst_7 (by decide) (fun c3 => ?_) (fun c3 => ?_)
      · have c3 := ci_le c3
        refine lv_iconst (v := 0) hx hb dX12_cameFirst_40 (by decide) ?_
        have hpo : (0 : Int32).toInt = 0 := (by omega)
        exact ret _ _ _ _ 0 () dX12_cameFirst_41 (by omega) hpo hP hD hS
      have c3 := ci_nle c3
      exfalso
      omega
  exact lp2 ((v12_worms.toInt - (0 : Int32).toInt).toNat + 1) (by omega) (by omega) _ _ hP hD hS _ hl
set_option maxHeartbeats 4000000 in
set_option maxRecDepth 100000 in
theorem k_X12_firstInk (l : Launch) (D : va_G) (κ : Nat → ClassId) (β : Nat) (a12 : Nat) (r12 : Nat → Nat) (v12_keptMany : Int32) (v12_done : Int32) (v12_sheets : Int32) (v12_holes : Int32) (v12_worms : Int32) (v12_laidMany : Int32) (v12_wanted : Int32) (v12_orderMany : Int32) (v12_firstOrder : Int32) (v12_lines : Int32) (v12_marks : Int32) (v12_dots : Int32) (v12_madeIn : Int32) (v12_bound : Int32) (v12_places : Int32) (v12_maps : Int32) (v12_tapeMany : Int32) (v12_stories : Int32) (v12_base : Int32) (v12_at : Int32) (v12_ends : Int32) (v12_fault : Int32) (v12_opened : Int32) (v12_bodies : Int32) (v12_ran : Int32) (v12_ownKind : Int32) (v12_ownNumber : Int32) (sz : Nat) (i1 : Rg 0 40 v12_keptMany) (i2 : Rg 0 40 v12_done) (i3 : Rg 0 8 v12_sheets) (i4 : Rg 0 40 v12_holes) (i5 : Rg 0 40 v12_worms) (i6 : Rg 0 8 v12_laidMany) (i7 : Rg 0 8 v12_wanted) (i8 : Rg 0 20 v12_lines) (i9 : Rg 0 60 v12_marks) (i10 : Rg 0 40 v12_dots) (i11 : Rg 0 20 v12_places) (i12 : Rg 0 8 v12_maps) (i13 : Rg 0 120 v12_tapeMany) (i14 : Rg 0 6 v12_stories) (i15 : Rg 0 50 v12_bodies) (i16 : Rg 0 1000 v12_ran) (i17 : v12_done.toInt ≤ v12_keptMany.toInt) (i18 : v12_keptMany.toInt = 0) (i19 : v12_done.toInt = 0) (i20 : v12_sheets.toInt = 0) (i21 : v12_holes.toInt = 0) (i22 : v12_worms.toInt = 0) (i23 : v12_lines.toInt = 0) (i24 : v12_marks.toInt = 0) (i25 : v12_dots.toInt = 0) (i26 : v12_madeIn.toInt = 2001) (i27 : v12_places.toInt = 0) (i28 : v12_maps.toInt = 0) (i29 : v12_tapeMany.toInt = 0) (i30 : v12_stories.toInt = 0) (i31 : v12_bodies.toInt = 0) : Met l yX12_firstInk wsX12_firstInk ({ frames := 0, cells := 0, slots := 0, locals := 0 } : Room) (PcK D κ β [O12 a12 r12 v12_keptMany v12_done v12_sheets v12_holes v12_worms v12_laidMany v12_wanted v12_orderMany v12_firstOrder v12_lines v12_marks v12_dots v12_madeIn v12_bound v12_places v12_maps v12_tapeMany v12_stories v12_base v12_at v12_ends v12_fault v12_opened v12_bodies v12_ran v12_ownKind v12_ownNumber] sz [.ref a12]) (QiK D (fun (r : Int32) (u : Unit) => r.toInt = -2) (fun (u : Unit) => [O12 a12 r12 v12_keptMany v12_done v12_sheets v12_holes v12_worms v12_laidMany v12_wanted v12_orderMany v12_firstOrder v12_lines v12_marks v12_dots v12_madeIn v12_bound v12_places v12_maps v12_tapeMany v12_stories v12_base v12_at v12_ends v12_fault v12_opened v12_bodies v12_ran v12_ownKind v12_ownNumber]) [O12 a12 r12 v12_keptMany v12_done v12_sheets v12_holes v12_worms v12_laidMany v12_wanted v12_orderMany v12_firstOrder v12_lines v12_marks v12_dots v12_madeIn v12_bound v12_places v12_maps v12_tapeMany v12_stories v12_base v12_at v12_ends v12_fault v12_opened v12_bodies v12_ran v12_ownKind v12_ownNumber] sz) 0 0 (va_A [O12 a12 r12 v12_keptMany v12_done v12_sheets v12_holes v12_worms v12_laidMany v12_wanted v12_orderMany v12_firstOrder v12_lines v12_marks v12_dots v12_madeIn v12_bound v12_places v12_maps v12_tapeMany v12_stories v12_base v12_at v12_ends v12_fault v12_opened v12_bodies v12_ran v12_ownKind v12_ownNumber] sz) := by
  refine ofK_i (cc := cX12_firstInk) (maxL := 4) (own := RX12) (by decide) rfl rfl (Nat.le_of_ble_eq_true rfl) ?_
  intro p e s m args below meth c Q A ls hsz hx hb hml hts hown hK hA hAB hP hD hl ret
  have hS : va_S A s.heap s.heap [] := va_S.rf
  have hl : lv_has ls 4 [(0, .ref a12)] := hl
  have w0 := hts (.fieldLink RX12 200 "OlderSkinModel" "lines" "I") (List.mem_of_getElem? (i := 1) rfl)
  have w1 := (fun w h => List.mem_cons_of_mem _ (List.mem_append_right _ h) : ∀ w ∈ u_ws RX12 TX12 63, w ∈ wsX12_firstInk)
  have l0 : (0 : Int32).toInt = 0 := by decide
  have l1 : (6 : Int32).toInt = 6 := by decide
  have l2 : ((-2) : Int32).toInt = -2 := by decide
  have l3 : (1 : Int32).toInt = 1 := by decide
  have i8 : 0 ≤ v12_lines.toInt ∧ v12_lines.toInt ≤ 20 := i8
  refine lv_iconst (v := 0) hx hb dX12_firstInk_0 (by decide) ?_
  refine lv_istore_n (lv' := [(1, .int 0), (0, .ref a12)]) hx hb dX12_firstInk_1 rfl hl (by decide) rfl (fun ls hl => ?_)
  have lp2 : ∀ (n2 : Nat) (k1 : Int32), (0 ≤ k1.toInt) → (6 - k1.toInt).toNat < n2 → ∀ (H : Heap) (locs : List Loc), va_P D vwCl [O12 a12 r12 v12_keptMany v12_done v12_sheets v12_holes v12_worms v12_laidMany v12_wanted v12_orderMany v12_firstOrder v12_lines v12_marks v12_dots v12_madeIn v12_bound v12_places v12_maps v12_tapeMany v12_stories v12_base v12_at v12_ends v12_fault v12_opened v12_bodies v12_ran v12_ownKind v12_ownNumber] H → va_D A [O12 a12 r12 v12_keptMany v12_done v12_sheets v12_holes v12_worms v12_laidMany v12_wanted v12_orderMany v12_firstOrder v12_lines v12_marks v12_dots v12_madeIn v12_bound v12_places v12_maps v12_tapeMany v12_stories v12_base v12_at v12_ends v12_fault v12_opened v12_bodies v12_ran v12_ownKind v12_ownNumber] → va_S A s.heap H locs → ∀ ls : Array Slot, lv_has ls 4 [(1, .int k1), (0, .ref a12)] → W p l e ({ frames := 0, cells := 0, slots := 0, locals := 0 } : Room) s m args below meth c H locs 0 0 Q (F0 m 2 ls []) := by
    intro n2
    induction n2 with
    | zero =>
      intro k1 h2 m3
      exact absurd m3 (Nat.not_lt_zero _)
    | succ n2 ih2 =>
      intro k1 h2 m3 H locs hP hD hS ls hl
      refine lv_iload_n hx hb dX12_firstInk_2 rfl (lv_at hl 0 rfl) ?_
      refine lv_bipush (v := 6) hx hb dX12_firstInk_3 (by decide) ?_
      refine lv_icmp_ge (tgt := 96) hx hb dX12_firstInk_5 (by decide) (fun c4 => ?_) (fun c4 => ?_)
      · have c4 := ci_le c4
        refine lv_bipush (v := (-2)) hx hb dX12_firstInk_96 (by decide) ?_
        have hpo : ((-2) : Int32).toInt = -2 := (by omega)
        exact ret _ _ _ _ (-2) () dX12_firstInk_98 hpo hP hD hS
      have c4 := ci_nle c4
      refine lv_iconst (v := 0) hx hb dX12_firstInk_8 (by decide) ?_
      refine lv_istore_n (lv' := [(2, .int 0), (1, .int k1), (0, .ref a12)]) hx hb dX12_firstInk_9 rfl hl (by decide) rfl (fun ls hl => ?_)
      refine lv_iconst (v := 0) hx hb dX12_firstInk_10 (by decide) ?_
      refine lv_istore_n (lv' := [(3, .int 0), (2, .int 0), (1, .int k1), (0, .ref a12)]) hx hb dX12_firstInk_11 rfl hl (by decide) rfl (fun ls hl => ?_)
      have lp12 : ∀ (n12 : Nat), (0 ≤ (0 : Int32).toInt) → (v12_lines.toInt - (0 : Int32).toInt).toNat < n12 → ∀ (H : Heap) (locs : List Loc), va_P D vwCl [O12 a12 r12 v12_keptMany v12_done v12_sheets v12_holes v12_worms v12_laidMany v12_wanted v12_orderMany v12_firstOrder v12_lines v12_marks v12_dots v12_madeIn v12_bound v12_places v12_maps v12_tapeMany v12_stories v12_base v12_at v12_ends v12_fault v12_opened v12_bodies v12_ran v12_ownKind v12_ownNumber] H → va_D A [O12 a12 r12 v12_keptMany v12_done v12_sheets v12_holes v12_worms v12_laidMany v12_wanted v12_orderMany v12_firstOrder v12_lines v12_marks v12_dots v12_madeIn v12_bound v12_places v12_maps v12_tapeMany v12_stories v12_base v12_at v12_ends v12_fault v12_opened v12_bodies v12_ran v12_ownKind v12_ownNumber] → va_S A s.heap H locs → ∀ ls : Array Slot, lv_has ls 4 [(3, .int 0), (2, .int 0), (1, .int k1), (0, .ref a12)] → W p l e ({ frames := 0, cells := 0, slots := 0, locals := 0 } : Room) s m args below meth c H locs 0 0 Q (F0 m 12 ls []) := by
        intro n12
        induction n12 with
        | zero =>
          intro h5 m6
          exact absurd m6 (Nat.not_lt_zero _)
        | succ n12 ih12 =>
          intro h5 m6 H locs hP hD hS ls hl
          refine lv_iload_n hx hb dX12_firstInk_12 rfl (lv_at hl 0 rfl) ?_
          refine lv_aload_n hx hb dX12_firstInk_13 rfl (lv_at hl 3 rfl) ?_
          refine va_get (D := D) (ci := 12) (v := .int v12_lines) (C := RX12) (T := TX12) (N := 63) hx hb hts w1 hown hK.1 hP 0 rfl rfl 20 (by decide) w0 (fun _ h9 => h9) rfl dX12_firstInk_14 ?_
          refine lv_icmp_ge (tgt := 46) hx hb dX12_firstInk_17 (by decide) (fun c7 => ?_) (fun c7 => ?_)
          · have c7 := ci_le c7
            refine lv_iconst (v := 0) hx hb dX12_firstInk_46 (by decide) ?_
            refine lv_istore_n (lv' := [(3, .int 0), (2, .int 0), (1, .int k1), (0, .ref a12)]) hx hb dX12_firstInk_47 rfl hl (by decide) rfl (fun ls hl => ?_)
            have lp48 : ∀ (n48 : Nat) (k8 : Int32) (k9 : Int32), (k9.toInt = 0) → (0 ≤ k8.toInt) → (6 - k8.toInt).toNat < n48 → ∀ (H : Heap) (locs : List Loc), va_P D vwCl [O12 a12 r12 v12_keptMany v12_done v12_sheets v12_holes v12_worms v12_laidMany v12_wanted v12_orderMany v12_firstOrder v12_lines v12_marks v12_dots v12_madeIn v12_bound v12_places v12_maps v12_tapeMany v12_stories v12_base v12_at v12_ends v12_fault v12_opened v12_bodies v12_ran v12_ownKind v12_ownNumber] H → va_D A [O12 a12 r12 v12_keptMany v12_done v12_sheets v12_holes v12_worms v12_laidMany v12_wanted v12_orderMany v12_firstOrder v12_lines v12_marks v12_dots v12_madeIn v12_bound v12_places v12_maps v12_tapeMany v12_stories v12_base v12_at v12_ends v12_fault v12_opened v12_bodies v12_ran v12_ownKind v12_ownNumber] → va_S A s.heap H locs → ∀ ls : Array Slot, lv_has ls 4 [(3, .int k8), (2, .int k9), (1, .int k1), (0, .ref a12)] → W p l e ({ frames := 0, cells := 0, slots := 0, locals := 0 } : Room) s m args below meth c H locs 0 0 Q (F0 m 48 ls []) := by
              intro n48
              induction n48 with
              | zero =>
                intro k8 k9 h10 h11 m12
                exact absurd m12 (Nat.not_lt_zero _)
              | succ n48 ih48 =>
                intro k8 k9 h10 h11 m12 H locs hP hD hS ls hl
                refine lv_iload_n hx hb dX12_firstInk_48 rfl (lv_at hl 0 rfl) ?_
                refine lv_bipush (v := 6) hx hb dX12_firstInk_49 (by decide) ?_
                refine lv_icmp_ge (tgt := 84) hx hb dX12_firstInk_51 (by decide) (fun c13 => ?_) (fun c13 => ?_)
                · have c13 := ci_le c13
                  refine lv_iload_n hx hb dX12_firstInk_84 rfl (lv_at hl 1 rfl) ?_
                  refine lv_if_eq (tgt := 90) hx hb dX12_firstInk_85 (by decide) (fun c14 => ?_) (fun c14 => ?_)
                  · have c14 := ci_eq c14
                    obtain ⟨x15, e16⟩ : ∃ y : Int32, y = k1 + 1 := ⟨_, rfl⟩
                    refine lv_iinc (v := x15) (lv' := [(1, .int x15), (3, .int k8), (2, .int k9), (0, .ref a12)]) hx hb dX12_firstInk_90 hl (k := 2) rfl (by rw [e16]; rfl) (by decide) rfl (fun ls hl => ?_)
                    try have h17 : x15.toInt = k1.toInt + (1 : Int32).toInt := ci_add e16 (by omega) (by omega)
                    refine lv_goto (tgt := 2) hx hb dX12_firstInk_93 (by decide) ?_
                    exact ih2 x15 (by omega) (by omega) _ _ hP hD hS _ (lv_sub hl [0, 3] rfl)
                  have c14 := ci_ne c14
                  exfalso
                  omega
                have c13 := ci_nle c13
                refine lv_iload_n hx hb dX12_firstInk_54 rfl (lv_at hl 1 rfl) ?_
                refine lv_if_eq (tgt := 76) hx hb dX12_firstInk_55 (by decide) (fun c18 => ?_) (fun c18 => ?_)
                · have c18 := ci_eq c18
                  refine lv_iconst (v := 0) hx hb dX12_firstInk_76 (by decide) ?_
                  refine lv_istore_n (lv' := [(2, .int 0), (3, .int k8), (1, .int k1), (0, .ref a12)]) hx hb dX12_firstInk_77 rfl hl (by decide) rfl (fun ls hl => ?_)
                  obtain ⟨x19, e20⟩ : ∃ y : Int32, y = k8 + 1 := ⟨_, rfl⟩
                  refine lv_iinc (v := x19) (lv' := [(3, .int x19), (2, .int 0), (1, .int k1), (0, .ref a12)]) hx hb dX12_firstInk_78 hl (k := 1) rfl (by rw [e20]; rfl) (by decide) rfl (fun ls hl => ?_)
                  try have h21 : x19.toInt = k8.toInt + (1 : Int32).toInt := ci_add e20 (by omega) (by omega)
                  refine lv_goto (tgt := 48) hx hb dX12_firstInk_81 (by decide) ?_
                  exact ih48 x19 0 (by omega) (by omega) (by omega) _ _ hP hD hS _ hl
                have c18 := ci_ne c18
                exfalso
                omega
            exact lp48 ((6 - (0 : Int32).toInt).toNat + 1) 0 0 (by omega) (by omega) (by omega) _ _ hP hD hS _ hl
          have c7 := ci_nle c7
          exfalso
          omega
      exact lp12 ((v12_lines.toInt - (0 : Int32).toInt).toNat + 1) (by omega) (by omega) _ _ hP hD hS _ hl
  exact lp2 ((6 - (0 : Int32).toInt).toNat + 1) 0 (by omega) (by omega) _ _ hP hD hS _ hl
set_option maxHeartbeats 4000000 in
set_option maxRecDepth 100000 in
theorem k_X12_ringOf (l : Launch) (D : va_G) (κ : Nat → ClassId) (β : Nat) (a12 : Nat) (r12 : Nat → Nat) (v12_keptMany : Int32) (v12_done : Int32) (v12_sheets : Int32) (v12_holes : Int32) (v12_worms : Int32) (v12_laidMany : Int32) (v12_wanted : Int32) (v12_orderMany : Int32) (v12_firstOrder : Int32) (v12_lines : Int32) (v12_marks : Int32) (v12_dots : Int32) (v12_madeIn : Int32) (v12_bound : Int32) (v12_places : Int32) (v12_maps : Int32) (v12_tapeMany : Int32) (v12_stories : Int32) (v12_base : Int32) (v12_at : Int32) (v12_ends : Int32) (v12_fault : Int32) (v12_opened : Int32) (v12_bodies : Int32) (v12_ran : Int32) (v12_ownKind : Int32) (v12_ownNumber : Int32) (sz : Nat) (i1 : Rg 0 40 v12_keptMany) (i2 : Rg 0 40 v12_done) (i3 : Rg 0 8 v12_sheets) (i4 : Rg 0 40 v12_holes) (i5 : Rg 0 40 v12_worms) (i6 : Rg 0 8 v12_laidMany) (i7 : Rg 0 8 v12_wanted) (i8 : Rg 0 20 v12_lines) (i9 : Rg 0 60 v12_marks) (i10 : Rg 0 40 v12_dots) (i11 : Rg 0 20 v12_places) (i12 : Rg 0 8 v12_maps) (i13 : Rg 0 120 v12_tapeMany) (i14 : Rg 0 6 v12_stories) (i15 : Rg 0 50 v12_bodies) (i16 : Rg 0 1000 v12_ran) (i17 : v12_done.toInt ≤ v12_keptMany.toInt) (i18 : v12_keptMany.toInt = 0) (i19 : v12_done.toInt = 0) (i20 : v12_sheets.toInt = 0) (i21 : v12_holes.toInt = 0) (i22 : v12_worms.toInt = 0) (i23 : v12_lines.toInt = 0) (i24 : v12_marks.toInt = 0) (i25 : v12_dots.toInt = 0) (i26 : v12_madeIn.toInt = 2001) (i27 : v12_places.toInt = 0) (i28 : v12_maps.toInt = 0) (i29 : v12_tapeMany.toInt = 0) (i30 : v12_stories.toInt = 0) (i31 : v12_bodies.toInt = 0) : Met l yX12_ringOf wsX12_ringOf ({ frames := 1, cells := 0, slots := 0, locals := 23 } : Room) (PcK D κ β [O12 a12 r12 v12_keptMany v12_done v12_sheets v12_holes v12_worms v12_laidMany v12_wanted v12_orderMany v12_firstOrder v12_lines v12_marks v12_dots v12_madeIn v12_bound v12_places v12_maps v12_tapeMany v12_stories v12_base v12_at v12_ends v12_fault v12_opened v12_bodies v12_ran v12_ownKind v12_ownNumber] sz [.ref a12]) (QiK D (fun (r : Int32) (u : Unit) => r.toInt = -2) (fun (u : Unit) => [O12 a12 r12 v12_keptMany v12_done v12_sheets v12_holes v12_worms v12_laidMany v12_wanted v12_orderMany v12_firstOrder v12_lines v12_marks v12_dots v12_madeIn v12_bound v12_places v12_maps v12_tapeMany v12_stories v12_base v12_at v12_ends v12_fault v12_opened v12_bodies v12_ran v12_ownKind v12_ownNumber]) [O12 a12 r12 v12_keptMany v12_done v12_sheets v12_holes v12_worms v12_laidMany v12_wanted v12_orderMany v12_firstOrder v12_lines v12_marks v12_dots v12_madeIn v12_bound v12_places v12_maps v12_tapeMany v12_stories v12_base v12_at v12_ends v12_fault v12_opened v12_bodies v12_ran v12_ownKind v12_ownNumber] sz) 0 0 (va_A [O12 a12 r12 v12_keptMany v12_done v12_sheets v12_holes v12_worms v12_laidMany v12_wanted v12_orderMany v12_firstOrder v12_lines v12_marks v12_dots v12_madeIn v12_bound v12_places v12_maps v12_tapeMany v12_stories v12_base v12_at v12_ends v12_fault v12_opened v12_bodies v12_ran v12_ownKind v12_ownNumber] sz) := by
  refine ofK_i (cc := cX12_ringOf) (maxL := 3) (own := RX12) (by decide) rfl rfl (Nat.le_of_ble_eq_true rfl) ?_
  intro p e s m args below meth c Q A ls hsz hx hb hml hts hown hK hA hAB hP hD hl ret
  have hS : va_S A s.heap s.heap [] := va_S.rf
  have hl : lv_has ls 3 [(0, .ref a12)] := hl
  have l0 : (0 : Int32).toInt = 0 := by decide
  have l1 : (6 : Int32).toInt = 6 := by decide
  have l2 : ((-2) : Int32).toInt = -2 := by decide
  have l3 : (1 : Int32).toInt = 1 := by decide
  refine lv_iconst (v := 0) hx hb dX12_ringOf_0 (by decide) ?_
  refine lv_istore_n (lv' := [(1, .int 0), (0, .ref a12)]) hx hb dX12_ringOf_1 rfl hl (by decide) rfl (fun ls hl => ?_)
  have lp2 : ∀ (n2 : Nat) (k1 : Int32), (0 ≤ k1.toInt) → (6 - k1.toInt).toNat < n2 → ∀ (H : Heap) (locs : List Loc), va_P D vwCl [O12 a12 r12 v12_keptMany v12_done v12_sheets v12_holes v12_worms v12_laidMany v12_wanted v12_orderMany v12_firstOrder v12_lines v12_marks v12_dots v12_madeIn v12_bound v12_places v12_maps v12_tapeMany v12_stories v12_base v12_at v12_ends v12_fault v12_opened v12_bodies v12_ran v12_ownKind v12_ownNumber] H → va_D A [O12 a12 r12 v12_keptMany v12_done v12_sheets v12_holes v12_worms v12_laidMany v12_wanted v12_orderMany v12_firstOrder v12_lines v12_marks v12_dots v12_madeIn v12_bound v12_places v12_maps v12_tapeMany v12_stories v12_base v12_at v12_ends v12_fault v12_opened v12_bodies v12_ran v12_ownKind v12_ownNumber] → va_S A s.heap H locs → ∀ ls : Array Slot, lv_has ls 3 [(1, .int k1), (0, .ref a12)] → W p l e ({ frames := 1, cells := 0, slots := 0, locals := 23 } : Room) s m args below meth c H locs 0 0 Q (F0 m 2 ls []) := by
    intro n2
    induction n2 with
    | zero =>
      intro k1 h2 m3
      exact absurd m3 (Nat.not_lt_zero _)
    | succ n2 ih2 =>
      intro k1 h2 m3 H locs hP hD hS ls hl
      refine lv_iload_n hx hb dX12_ringOf_2 rfl (lv_at hl 0 rfl) ?_
      refine lv_bipush (v := 6) hx hb dX12_ringOf_3 (by decide) ?_
      refine lv_icmp_ge (tgt := 55) hx hb dX12_ringOf_5 (by decide) (fun c4 => ?_) (fun c4 => ?_)
      · have c4 := ci_le c4
        refine lv_bipush (v := (-2)) hx hb dX12_ringOf_55 (by decide) ?_
        have hpo : ((-2) : Int32).toInt = -2 := (by omega)
        exact ret _ _ _ _ (-2) () dX12_ringOf_57 hpo hP hD hS
      have c4 := ci_nle c4
      refine lv_iload_n hx hb dX12_ringOf_8 rfl (lv_at hl 0 rfl) ?_
      refine lv_iconst (v := 1) hx hb dX12_ringOf_9 (by decide) ?_
      refine lv_iadd hx hb dX12_ringOf_10 ?_
      refine lv_topi (fun x5 e6 => ?_)
      try have h7 : x5.toInt = k1.toInt + (1 : Int32).toInt := ci_add e6 (by omega) (by omega)
      refine lv_istore_n (lv' := [(2, .int x5), (1, .int k1), (0, .ref a12)]) hx hb dX12_ringOf_11 rfl hl (by decide) rfl (fun ls hl => ?_)
      have lp12 : ∀ (n12 : Nat) (k8 : Int32), (0 ≤ k8.toInt) → (6 - k8.toInt).toNat < n12 → ∀ (H : Heap) (locs : List Loc), va_P D vwCl [O12 a12 r12 v12_keptMany v12_done v12_sheets v12_holes v12_worms v12_laidMany v12_wanted v12_orderMany v12_firstOrder v12_lines v12_marks v12_dots v12_madeIn v12_bound v12_places v12_maps v12_tapeMany v12_stories v12_base v12_at v12_ends v12_fault v12_opened v12_bodies v12_ran v12_ownKind v12_ownNumber] H → va_D A [O12 a12 r12 v12_keptMany v12_done v12_sheets v12_holes v12_worms v12_laidMany v12_wanted v12_orderMany v12_firstOrder v12_lines v12_marks v12_dots v12_madeIn v12_bound v12_places v12_maps v12_tapeMany v12_stories v12_base v12_at v12_ends v12_fault v12_opened v12_bodies v12_ran v12_ownKind v12_ownNumber] → va_S A s.heap H locs → ∀ ls : Array Slot, lv_has ls 3 [(2, .int k8), (1, .int k1), (0, .ref a12)] → W p l e ({ frames := 1, cells := 0, slots := 0, locals := 23 } : Room) s m args below meth c H locs 0 0 Q (F0 m 12 ls []) := by
        intro n12
        induction n12 with
        | zero =>
          intro k8 h9 m10
          exact absurd m10 (Nat.not_lt_zero _)
        | succ n12 ih12 =>
          intro k8 h9 m10 H locs hP hD hS ls hl
          refine lv_iload_n hx hb dX12_ringOf_12 rfl (lv_at hl 0 rfl) ?_
          refine lv_bipush (v := 6) hx hb dX12_ringOf_13 (by decide) ?_
          refine lv_icmp_ge (tgt := 49) hx hb dX12_ringOf_15 (by decide) (fun c11 => ?_) (fun c11 => ?_)
          · have c11 := ci_le c11
            obtain ⟨x12, e13⟩ : ∃ y : Int32, y = k1 + 1 := ⟨_, rfl⟩
            refine lv_iinc (v := x12) (lv' := [(1, .int x12), (2, .int k8), (0, .ref a12)]) hx hb dX12_ringOf_49 hl (k := 1) rfl (by rw [e13]; rfl) (by decide) rfl (fun ls hl => ?_)
            try have h14 : x12.toInt = k1.toInt + (1 : Int32).toInt := ci_add e13 (by omega) (by omega)
            refine lv_goto (tgt := 2) hx hb dX12_ringOf_52 (by decide) ?_
            exact ih2 x12 (by omega) (by omega) _ _ hP hD hS _ (lv_sub hl [0, 2] rfl)
          have c11 := ci_nle c11
          refine lv_aload_n hx hb dX12_ringOf_18 rfl (lv_at hl 2 rfl) ?_
          refine lv_iload_n hx hb dX12_ringOf_19 rfl (lv_at hl 1 rfl) ?_
          refine lv_iload_n hx hb dX12_ringOf_20 rfl (lv_at hl 0 rfl) ?_
          refine kcm_i hA hAB hP hD hS [true] rfl (fun _ => rfl) (fun hPc hDc => va_runV (As := [.int k1, .int k8]) (rest := []) ⟨hx, hb, hml, hown, hts⟩ (k_X12_cameFirst l D κ β a12 r12 v12_keptMany v12_done v12_sheets v12_holes v12_worms v12_laidMany v12_wanted v12_orderMany v12_firstOrder v12_lines v12_marks v12_dots v12_madeIn v12_bound v12_places v12_maps v12_tapeMany v12_stories v12_base v12_at v12_ends v12_fault v12_opened v12_bodies v12_ran v12_ownKind v12_ownNumber H.size k1 k8 i1 i2 i3 i4 i5 i6 i7 i8 i9 i10 i11 i12 i13 i14 i15 i16 i17 (by omega) (by omega) (by omega) (by omega) (by omega) (by omega) (by omega) (by omega) (by omega) (by omega) (by omega) (by omega) (by omega) (by omega)) (cwV 2 hts gX12_ringOf_X12_cameFirst rfl rfl rfl (by decide +kernel) ⟨Nat.le_of_ble_eq_true rfl, Nat.le_of_ble_eq_true rfl⟩) (pk_V hK hS hAB hPc hDc 0 (ci := 12) rfl rfl rfl) rfl rfl hl.1 rfl (lv_room (Nat.le_of_ble_eq_true rfl)) dX12_ringOf_21 ⟨Nat.le_of_ble_eq_true rfl, Nat.le_of_ble_eq_true rfl⟩) (fun x15 u16 H locs hw hPD hS => ?_)
          have h17 : x15.toInt = 0 := hw
          obtain ⟨hP, hD⟩ : PD D A [O12 a12 r12 v12_keptMany v12_done v12_sheets v12_holes v12_worms v12_laidMany v12_wanted v12_orderMany v12_firstOrder v12_lines v12_marks v12_dots v12_madeIn v12_bound v12_places v12_maps v12_tapeMany v12_stories v12_base v12_at v12_ends v12_fault v12_opened v12_bodies v12_ran v12_ownKind v12_ownNumber] H := hPD
          refine lv_if_eq (tgt := 43) hx hb dX12_ringOf_24 (by decide) (fun c18 => ?_) (fun c18 => ?_)
          · have c18 := ci_eq c18
            obtain ⟨x19, e20⟩ : ∃ y : Int32, y = k8 + 1 := ⟨_, rfl⟩
            refine lv_iinc (v := x19) (lv' := [(2, .int x19), (1, .int k1), (0, .ref a12)]) hx hb dX12_ringOf_43 hl (k := 0) rfl (by rw [e20]; rfl) (by decide) rfl (fun ls hl => ?_)
            try have h21 : x19.toInt = k8.toInt + (1 : Int32).toInt := ci_add e20 (by omega) (by omega)
            refine lv_goto (tgt := 12) hx hb dX12_ringOf_46 (by decide) ?_
            exact ih12 x19 (by omega) (by omega) _ _ hP hD hS _ hl
          have c18 := ci_ne c18
          exfalso
          omega
      exact lp12 ((6 - x5.toInt).toNat + 1) x5 (by omega) (by omega) _ _ hP hD hS _ hl
  exact lp2 ((6 - (0 : Int32).toInt).toNat + 1) 0 (by omega) (by omega) _ _ hP hD hS _ hl
set_option maxHeartbeats 4000000 in
set_option maxRecDepth 100000 in
theorem k_X12_inks (l : Launch) (D : va_G) (κ : Nat → ClassId) (β : Nat) (a12 : Nat) (r12 : Nat → Nat) (v12_keptMany : Int32) (v12_done : Int32) (v12_sheets : Int32) (v12_holes : Int32) (v12_worms : Int32) (v12_laidMany : Int32) (v12_wanted : Int32) (v12_orderMany : Int32) (v12_firstOrder : Int32) (v12_lines : Int32) (v12_marks : Int32) (v12_dots : Int32) (v12_madeIn : Int32) (v12_bound : Int32) (v12_places : Int32) (v12_maps : Int32) (v12_tapeMany : Int32) (v12_stories : Int32) (v12_base : Int32) (v12_at : Int32) (v12_ends : Int32) (v12_fault : Int32) (v12_opened : Int32) (v12_bodies : Int32) (v12_ran : Int32) (v12_ownKind : Int32) (v12_ownNumber : Int32) (sz : Nat) (p1 : Int32) (p2 : Int32) (i1 : Rg 0 40 v12_keptMany) (i2 : Rg 0 40 v12_done) (i3 : Rg 0 8 v12_sheets) (i4 : Rg 0 40 v12_holes) (i5 : Rg 0 40 v12_worms) (i6 : Rg 0 8 v12_laidMany) (i7 : Rg 0 8 v12_wanted) (i8 : Rg 0 20 v12_lines) (i9 : Rg 0 60 v12_marks) (i10 : Rg 0 40 v12_dots) (i11 : Rg 0 20 v12_places) (i12 : Rg 0 8 v12_maps) (i13 : Rg 0 120 v12_tapeMany) (i14 : Rg 0 6 v12_stories) (i15 : Rg 0 50 v12_bodies) (i16 : Rg 0 1000 v12_ran) (i17 : v12_done.toInt ≤ v12_keptMany.toInt) (i18 : v12_keptMany.toInt = 0) (i19 : v12_done.toInt = 0) (i20 : v12_sheets.toInt = 0) (i21 : v12_holes.toInt = 0) (i22 : v12_worms.toInt = 0) (i23 : v12_lines.toInt = 0) (i24 : v12_marks.toInt = 0) (i25 : v12_dots.toInt = 0) (i26 : v12_madeIn.toInt = 2001) (i27 : v12_places.toInt = 0) (i28 : v12_maps.toInt = 0) (i29 : v12_tapeMany.toInt = 0) (i30 : v12_stories.toInt = 0) (i31 : v12_bodies.toInt = 0) : Met l yX12_inks wsX12_inks ({ frames := 2, cells := 0, slots := 0, locals := 45 } : Room) (PcK D κ β [O12 a12 r12 v12_keptMany v12_done v12_sheets v12_holes v12_worms v12_laidMany v12_wanted v12_orderMany v12_firstOrder v12_lines v12_marks v12_dots v12_madeIn v12_bound v12_places v12_maps v12_tapeMany v12_stories v12_base v12_at v12_ends v12_fault v12_opened v12_bodies v12_ran v12_ownKind v12_ownNumber] sz [.ref a12, .int p1, .int p2]) (QiK D (fun (r : Int32) (u : Int32) => (0 ≤ u.toInt ∧ u.toInt ≤ 40) ∧ ((¬ (0 ≤ p1.toInt ∧ p1.toInt ≤ 99) ∧ r.toInt = -1) ∨ ((0 ≤ p1.toInt ∧ p1.toInt ≤ 99) ∧ (p2.toInt = -1 ∨ p2.toInt = -2) ∧ r.toInt = -2) ∨ ((0 ≤ p1.toInt ∧ p1.toInt ≤ 99) ∧ (0 ≤ p2.toInt ∧ p2.toInt / 10 ≤ 5 ∧ p2.toInt % 10 ≤ 5 ∧ p2.toInt / 10 ≠ p2.toInt % 10) ∧ r.toInt = 0) ∨ ((0 ≤ p1.toInt ∧ p1.toInt ≤ 99) ∧ p2.toInt ≠ -1 ∧ p2.toInt ≠ -2 ∧ ¬ (0 ≤ p2.toInt ∧ p2.toInt / 10 ≤ 5 ∧ p2.toInt % 10 ≤ 5 ∧ p2.toInt / 10 ≠ p2.toInt % 10) ∧ r.toInt = -1))) (fun (u : Int32) => [O12 a12 r12 v12_keptMany v12_done v12_sheets v12_holes u v12_laidMany v12_wanted v12_orderMany v12_firstOrder v12_lines v12_marks v12_dots v12_madeIn v12_bound v12_places v12_maps v12_tapeMany v12_stories v12_base v12_at v12_ends v12_fault v12_opened v12_bodies v12_ran v12_ownKind v12_ownNumber]) [O12 a12 r12 v12_keptMany v12_done v12_sheets v12_holes v12_worms v12_laidMany v12_wanted v12_orderMany v12_firstOrder v12_lines v12_marks v12_dots v12_madeIn v12_bound v12_places v12_maps v12_tapeMany v12_stories v12_base v12_at v12_ends v12_fault v12_opened v12_bodies v12_ran v12_ownKind v12_ownNumber] sz) 0 0 (va_A [O12 a12 r12 v12_keptMany v12_done v12_sheets v12_holes v12_worms v12_laidMany v12_wanted v12_orderMany v12_firstOrder v12_lines v12_marks v12_dots v12_madeIn v12_bound v12_places v12_maps v12_tapeMany v12_stories v12_base v12_at v12_ends v12_fault v12_opened v12_bodies v12_ran v12_ownKind v12_ownNumber] sz) := by
  refine ofK_i (cc := cX12_inks) (maxL := 3) (own := RX12) (by decide) rfl rfl (Nat.le_of_ble_eq_true rfl) ?_
  intro p e s m args below meth c Q A ls hsz hx hb hml hts hown hK hA hAB hP hD hl ret
  have hS : va_S A s.heap s.heap [] := va_S.rf
  have hl : lv_has ls 3 [(0, .ref a12), (1, .int p1), (2, .int p2)] := hl
  have l0 : (0 : Int32).toInt = 0 := by decide
  have l1 : ((-1) : Int32).toInt = -1 := by decide
  have l2 : ((-2) : Int32).toInt = -2 := by decide
  have l3 : (10 : Int32).toInt = 10 := by decide
  have i5 : 0 ≤ v12_worms.toInt ∧ v12_worms.toInt ≤ 40 := i5
  refine lv_iload_n hx hb dX12_inks_0 rfl (lv_at hl 1 rfl) ?_
  refine kcm_i hA hAB hP hD hS [false] rfl (fun _ => rfl) (fun hPc hDc => va_runS (As := [.int p1]) (rest := []) ⟨hx, hb, hml, hown, hts⟩ (k_X12_isSlack l D κ β s.heap.size p1) (va_cwS 1 hts gX12_inks_X12_isSlack rfl rfl rfl (by decide +kernel) ⟨Nat.le_of_ble_eq_true rfl, Nat.le_of_ble_eq_true rfl⟩) (pk_S hK hS hAB hPc hDc) rfl rfl hl.1 rfl (lv_room (Nat.le_of_ble_eq_true rfl)) dX12_inks_1 ⟨Nat.le_of_ble_eq_true rfl, Nat.le_of_ble_eq_true rfl⟩) (fun x1 u2 H locs hw hPD hS => ?_)
  have h3 : (x1.toInt = 1 ∧ 0 ≤ p1.toInt ∧ p1.toInt ≤ 99) ∨ (x1.toInt = 0 ∧ (p1.toInt < 0 ∨ 99 < p1.toInt)) := hw
  obtain ⟨hP, hD⟩ : PD D A [O12 a12 r12 v12_keptMany v12_done v12_sheets v12_holes v12_worms v12_laidMany v12_wanted v12_orderMany v12_firstOrder v12_lines v12_marks v12_dots v12_madeIn v12_bound v12_places v12_maps v12_tapeMany v12_stories v12_base v12_at v12_ends v12_fault v12_opened v12_bodies v12_ran v12_ownKind v12_ownNumber] H := hPD
  refine lv_if_eq (tgt := 48) hx hb dX12_inks_4 (by decide) (fun c4 => ?_) (fun c4 => ?_)
  · have c4 := ci_eq c4
    refine lv_iconst (v := (-1)) hx hb dX12_inks_48 (by decide) ?_
    have hpo : (0 ≤ v12_worms.toInt ∧ v12_worms.toInt ≤ 40) ∧ ((¬ (0 ≤ p1.toInt ∧ p1.toInt ≤ 99) ∧ ((-1) : Int32).toInt = -1) ∨ ((0 ≤ p1.toInt ∧ p1.toInt ≤ 99) ∧ (p2.toInt = -1 ∨ p2.toInt = -2) ∧ ((-1) : Int32).toInt = -2) ∨ ((0 ≤ p1.toInt ∧ p1.toInt ≤ 99) ∧ (0 ≤ p2.toInt ∧ p2.toInt / 10 ≤ 5 ∧ p2.toInt % 10 ≤ 5 ∧ p2.toInt / 10 ≠ p2.toInt % 10) ∧ ((-1) : Int32).toInt = 0) ∨ ((0 ≤ p1.toInt ∧ p1.toInt ≤ 99) ∧ p2.toInt ≠ -1 ∧ p2.toInt ≠ -2 ∧ ¬ (0 ≤ p2.toInt ∧ p2.toInt / 10 ≤ 5 ∧ p2.toInt % 10 ≤ 5 ∧ p2.toInt / 10 ≠ p2.toInt % 10) ∧ ((-1) : Int32).toInt = -1)) := ⟨i5, (by omega)⟩
    exact ret _ _ _ _ (-1) v12_worms dX12_inks_49 hpo hP hD hS
  have c4 := ci_ne c4
  refine lv_iload_n hx hb dX12_inks_7 rfl (lv_at hl 2 rfl) ?_
  refine lv_bipush (v := (-2)) hx hb dX12_inks_8 (by decide) ?_
  refine lv_icmp_lt (tgt := 48) hx hb dX12_inks_10 (by decide) (fun c5 => ?_) (fun c5 => ?_)
  · have c5 := ci_lt c5
    refine lv_iconst (v := (-1)) hx hb dX12_inks_48 (by decide) ?_
    have hpo : (0 ≤ v12_worms.toInt ∧ v12_worms.toInt ≤ 40) ∧ ((¬ (0 ≤ p1.toInt ∧ p1.toInt ≤ 99) ∧ ((-1) : Int32).toInt = -1) ∨ ((0 ≤ p1.toInt ∧ p1.toInt ≤ 99) ∧ (p2.toInt = -1 ∨ p2.toInt = -2) ∧ ((-1) : Int32).toInt = -2) ∨ ((0 ≤ p1.toInt ∧ p1.toInt ≤ 99) ∧ (0 ≤ p2.toInt ∧ p2.toInt / 10 ≤ 5 ∧ p2.toInt % 10 ≤ 5 ∧ p2.toInt / 10 ≠ p2.toInt % 10) ∧ ((-1) : Int32).toInt = 0) ∨ ((0 ≤ p1.toInt ∧ p1.toInt ≤ 99) ∧ p2.toInt ≠ -1 ∧ p2.toInt ≠ -2 ∧ ¬ (0 ≤ p2.toInt ∧ p2.toInt / 10 ≤ 5 ∧ p2.toInt % 10 ≤ 5 ∧ p2.toInt / 10 ≠ p2.toInt % 10) ∧ ((-1) : Int32).toInt = -1)) := ⟨i5, (by omega)⟩
    exact ret _ _ _ _ (-1) v12_worms dX12_inks_49 hpo hP hD hS
  have c5 := ci_nlt c5
  refine lv_iload_n hx hb dX12_inks_13 rfl (lv_at hl 2 rfl) ?_
  refine lv_if_lt (tgt := 50) hx hb dX12_inks_14 (by decide) (fun c6 => ?_) (fun c6 => ?_)
  · have c6 := ci_lt c6
    refine lv_aload_n hx hb dX12_inks_50 rfl (lv_at hl 0 rfl) ?_
    refine lv_iload_n hx hb dX12_inks_51 rfl (lv_at hl 1 rfl) ?_
    refine lv_iconst (v := (-1)) hx hb dX12_inks_52 (by decide) ?_
    refine kcm_v hA hAB hP hD hS [true] rfl (fun _ => rfl) (fun hPc hDc => va_runV (As := [.int p1, .int (-1)]) (rest := []) ⟨hx, hb, hml, hown, hts⟩ (k_X12_findWorms l D κ β a12 r12 v12_keptMany v12_done v12_sheets v12_holes v12_worms v12_laidMany v12_wanted v12_orderMany v12_firstOrder v12_lines v12_marks v12_dots v12_madeIn v12_bound v12_places v12_maps v12_tapeMany v12_stories v12_base v12_at v12_ends v12_fault v12_opened v12_bodies v12_ran v12_ownKind v12_ownNumber H.size p1 (-1) i1 i2 i3 i4 i5 i6 i7 i8 i9 i10 i11 i12 i13 i14 i15 i16 i17 (by omega) (by omega) (by omega) (by omega) (by omega) (by omega) (by omega) (by omega) (by omega) (by omega) (by omega) (by omega) (by omega) (by omega)) (cwV 2 hts gX12_inks_X12_findWorms rfl rfl rfl (by decide +kernel) ⟨Nat.le_of_ble_eq_true rfl, Nat.le_of_ble_eq_true rfl⟩) (pk_V hK hS hAB hPc hDc 0 (ci := 12) rfl rfl rfl) rfl rfl hl.1 rfl (lv_room (Nat.le_of_ble_eq_true rfl)) dX12_inks_53 ⟨Nat.le_of_ble_eq_true rfl, Nat.le_of_ble_eq_true rfl⟩) (fun x7 H locs hw hPD hS => ?_)
    obtain ⟨h8, h9⟩ : (0 ≤ x7.toInt ∧ x7.toInt ≤ 40) ∧ (x7.toInt = 0) := hw
    obtain ⟨hP, hD⟩ : PD D A [O12 a12 r12 v12_keptMany v12_done v12_sheets v12_holes x7 v12_laidMany v12_wanted v12_orderMany v12_firstOrder v12_lines v12_marks v12_dots v12_madeIn v12_bound v12_places v12_maps v12_tapeMany v12_stories v12_base v12_at v12_ends v12_fault v12_opened v12_bodies v12_ran v12_ownKind v12_ownNumber] H := hPD
    refine lv_iload_n hx hb dX12_inks_56 rfl (lv_at hl 2 rfl) ?_
    refine lv_if_ge (tgt := 77) hx hb dX12_inks_57 (by decide) (fun c10 => ?_) (fun c10 => ?_)
    · have c10 := ci_le c10
      refine lv_aload_n hx hb dX12_inks_77 rfl (lv_at hl 0 rfl) ?_
      refine lv_iload_n hx hb dX12_inks_78 rfl (lv_at hl 2 rfl) ?_
      refine lv_bipush (v := 10) hx hb dX12_inks_79 (by decide) ?_
      refine lv_idiv hx hb dX12_inks_81 (by decide) ?_
      refine lv_topi (fun x11 e12 => ?_)
      have h13 := ci_divL (n := 10) (by decide) (by decide) e12
      refine lv_iload_n hx hb dX12_inks_82 rfl (lv_at hl 2 rfl) ?_
      refine lv_bipush (v := 10) hx hb dX12_inks_83 (by decide) ?_
      refine lv_irem hx hb dX12_inks_85 (by decide) ?_
      refine lv_topi (fun x14 e15 => ?_)
      have h16 := ci_remL (n := 10) (by decide) (by decide) e15
      refine kcm_i hA hAB hP hD hS [true] rfl (fun _ => rfl) (fun hPc hDc => va_runV (As := [.int x11, .int x14]) (rest := []) ⟨hx, hb, hml, hown, hts⟩ (k_X12_cameFirst l D κ β a12 r12 v12_keptMany v12_done v12_sheets v12_holes x7 v12_laidMany v12_wanted v12_orderMany v12_firstOrder v12_lines v12_marks v12_dots v12_madeIn v12_bound v12_places v12_maps v12_tapeMany v12_stories v12_base v12_at v12_ends v12_fault v12_opened v12_bodies v12_ran v12_ownKind v12_ownNumber H.size x11 x14 i1 i2 i3 i4 h8 i6 i7 i8 i9 i10 i11 i12 i13 i14 i15 i16 i17 (by omega) (by omega) (by omega) (by omega) (by omega) (by omega) (by omega) (by omega) (by omega) (by omega) (by omega) (by omega) (by omega) (by omega)) (cwV 2 hts gX12_inks_X12_cameFirst rfl rfl rfl (by decide +kernel) ⟨Nat.le_of_ble_eq_true rfl, Nat.le_of_ble_eq_true rfl⟩) (pk_V hK hS hAB hPc hDc 0 (ci := 12) rfl rfl rfl) rfl rfl hl.1 rfl (lv_room (Nat.le_of_ble_eq_true rfl)) dX12_inks_86 ⟨Nat.le_of_ble_eq_true rfl, Nat.le_of_ble_eq_true rfl⟩) (fun x17 u18 H locs hw hPD hS => ?_)
      have h19 : x17.toInt = 0 := hw
      obtain ⟨hP, hD⟩ : PD D A [O12 a12 r12 v12_keptMany v12_done v12_sheets v12_holes x7 v12_laidMany v12_wanted v12_orderMany v12_firstOrder v12_lines v12_marks v12_dots v12_madeIn v12_bound v12_places v12_maps v12_tapeMany v12_stories v12_base v12_at v12_ends v12_fault v12_opened v12_bodies v12_ran v12_ownKind v12_ownNumber] H := hPD
      refine lv_if_eq (tgt := 96) hx hb dX12_inks_89 (by decide) (fun c20 => ?_) (fun c20 => ?_)
      · have c20 := ci_eq c20
        refine lv_iconst (v := 0) hx hb dX12_inks_96 (by decide) ?_
        have hpo : (0 ≤ x7.toInt ∧ x7.toInt ≤ 40) ∧ ((¬ (0 ≤ p1.toInt ∧ p1.toInt ≤ 99) ∧ (0 : Int32).toInt = -1) ∨ ((0 ≤ p1.toInt ∧ p1.toInt ≤ 99) ∧ (p2.toInt = -1 ∨ p2.toInt = -2) ∧ (0 : Int32).toInt = -2) ∨ ((0 ≤ p1.toInt ∧ p1.toInt ≤ 99) ∧ (0 ≤ p2.toInt ∧ p2.toInt / 10 ≤ 5 ∧ p2.toInt % 10 ≤ 5 ∧ p2.toInt / 10 ≠ p2.toInt % 10) ∧ (0 : Int32).toInt = 0) ∨ ((0 ≤ p1.toInt ∧ p1.toInt ≤ 99) ∧ p2.toInt ≠ -1 ∧ p2.toInt ≠ -2 ∧ ¬ (0 ≤ p2.toInt ∧ p2.toInt / 10 ≤ 5 ∧ p2.toInt % 10 ≤ 5 ∧ p2.toInt / 10 ≠ p2.toInt % 10) ∧ (0 : Int32).toInt = -1)) := ⟨h8, (by omega)⟩
        exact ret _ _ _ _ 0 x7 dX12_inks_97 hpo hP hD hS
      have c20 := ci_ne c20
      exfalso
      omega
    have c10 := ci_nle c10
    refine lv_iload_n hx hb dX12_inks_60 rfl (lv_at hl 2 rfl) ?_
    refine lv_iconst (v := (-1)) hx hb dX12_inks_61 (by decide) ?_
    refine lv_icmp_ne (tgt := 72) hx hb dX12_inks_62 (by decide) (fun c21 => ?_) (fun c21 => ?_)
    · have c21 := ci_ne c21
      refine lv_aload_n hx hb dX12_inks_72 rfl (lv_at hl 0 rfl) ?_
      refine kcm_i hA hAB hP hD hS [true] rfl (fun _ => rfl) (fun hPc hDc => va_runV (As := []) (rest := []) ⟨hx, hb, hml, hown, hts⟩ (k_X12_ringOf l D κ β a12 r12 v12_keptMany v12_done v12_sheets v12_holes x7 v12_laidMany v12_wanted v12_orderMany v12_firstOrder v12_lines v12_marks v12_dots v12_madeIn v12_bound v12_places v12_maps v12_tapeMany v12_stories v12_base v12_at v12_ends v12_fault v12_opened v12_bodies v12_ran v12_ownKind v12_ownNumber H.size i1 i2 i3 i4 h8 i6 i7 i8 i9 i10 i11 i12 i13 i14 i15 i16 i17 (by omega) (by omega) (by omega) (by omega) (by omega) (by omega) (by omega) (by omega) (by omega) (by omega) (by omega) (by omega) (by omega) (by omega)) (cwV 0 hts gX12_inks_X12_ringOf rfl rfl rfl (by decide +kernel) ⟨Nat.le_of_ble_eq_true rfl, Nat.le_of_ble_eq_true rfl⟩) (pk_V hK hS hAB hPc hDc 0 (ci := 12) rfl rfl rfl) rfl rfl hl.1 rfl (lv_room (Nat.le_of_ble_eq_true rfl)) dX12_inks_73 ⟨Nat.le_of_ble_eq_true rfl, Nat.le_of_ble_eq_true rfl⟩) (fun x22 u23 H locs hw hPD hS => ?_)
      have h24 : x22.toInt = -2 := hw
      obtain ⟨hP, hD⟩ : PD D A [O12 a12 r12 v12_keptMany v12_done v12_sheets v12_holes x7 v12_laidMany v12_wanted v12_orderMany v12_firstOrder v12_lines v12_marks v12_dots v12_madeIn v12_bound v12_places v12_maps v12_tapeMany v12_stories v12_base v12_at v12_ends v12_fault v12_opened v12_bodies v12_ran v12_ownKind v12_ownNumber] H := hPD
      have hpo : (0 ≤ x7.toInt ∧ x7.toInt ≤ 40) ∧ ((¬ (0 ≤ p1.toInt ∧ p1.toInt ≤ 99) ∧ x22.toInt = -1) ∨ ((0 ≤ p1.toInt ∧ p1.toInt ≤ 99) ∧ (p2.toInt = -1 ∨ p2.toInt = -2) ∧ x22.toInt = -2) ∨ ((0 ≤ p1.toInt ∧ p1.toInt ≤ 99) ∧ (0 ≤ p2.toInt ∧ p2.toInt / 10 ≤ 5 ∧ p2.toInt % 10 ≤ 5 ∧ p2.toInt / 10 ≠ p2.toInt % 10) ∧ x22.toInt = 0) ∨ ((0 ≤ p1.toInt ∧ p1.toInt ≤ 99) ∧ p2.toInt ≠ -1 ∧ p2.toInt ≠ -2 ∧ ¬ (0 ≤ p2.toInt ∧ p2.toInt / 10 ≤ 5 ∧ p2.toInt % 10 ≤ 5 ∧ p2.toInt / 10 ≠ p2.toInt % 10) ∧ x22.toInt = -1)) := ⟨h8, (by omega)⟩
      exact ret _ _ _ _ x22 x7 dX12_inks_76 hpo hP hD hS
    have c21 := ci_eq c21
    refine lv_aload_n hx hb dX12_inks_65 rfl (lv_at hl 0 rfl) ?_
    refine kcm_i hA hAB hP hD hS [true] rfl (fun _ => rfl) (fun hPc hDc => va_runV (As := []) (rest := []) ⟨hx, hb, hml, hown, hts⟩ (k_X12_firstInk l D κ β a12 r12 v12_keptMany v12_done v12_sheets v12_holes x7 v12_laidMany v12_wanted v12_orderMany v12_firstOrder v12_lines v12_marks v12_dots v12_madeIn v12_bound v12_places v12_maps v12_tapeMany v12_stories v12_base v12_at v12_ends v12_fault v12_opened v12_bodies v12_ran v12_ownKind v12_ownNumber H.size i1 i2 i3 i4 h8 i6 i7 i8 i9 i10 i11 i12 i13 i14 i15 i16 i17 (by omega) (by omega) (by omega) (by omega) (by omega) (by omega) (by omega) (by omega) (by omega) (by omega) (by omega) (by omega) (by omega) (by omega)) (cwV 0 hts gX12_inks_X12_firstInk rfl rfl rfl (by decide +kernel) ⟨Nat.le_of_ble_eq_true rfl, Nat.le_of_ble_eq_true rfl⟩) (pk_V hK hS hAB hPc hDc 0 (ci := 12) rfl rfl rfl) rfl rfl hl.1 rfl (lv_room (Nat.le_of_ble_eq_true rfl)) dX12_inks_66 ⟨Nat.le_of_ble_eq_true rfl, Nat.le_of_ble_eq_true rfl⟩) (fun x25 u26 H locs hw hPD hS => ?_)
    have h27 : x25.toInt = -2 := hw
    obtain ⟨hP, hD⟩ : PD D A [O12 a12 r12 v12_keptMany v12_done v12_sheets v12_holes x7 v12_laidMany v12_wanted v12_orderMany v12_firstOrder v12_lines v12_marks v12_dots v12_madeIn v12_bound v12_places v12_maps v12_tapeMany v12_stories v12_base v12_at v12_ends v12_fault v12_opened v12_bodies v12_ran v12_ownKind v12_ownNumber] H := hPD
    refine lv_goto (tgt := 76) hx hb dX12_inks_69 (by decide) ?_
    have hpo : (0 ≤ x7.toInt ∧ x7.toInt ≤ 40) ∧ ((¬ (0 ≤ p1.toInt ∧ p1.toInt ≤ 99) ∧ x25.toInt = -1) ∨ ((0 ≤ p1.toInt ∧ p1.toInt ≤ 99) ∧ (p2.toInt = -1 ∨ p2.toInt = -2) ∧ x25.toInt = -2) ∨ ((0 ≤ p1.toInt ∧ p1.toInt ≤ 99) ∧ (0 ≤ p2.toInt ∧ p2.toInt / 10 ≤ 5 ∧ p2.toInt % 10 ≤ 5 ∧ p2.toInt / 10 ≠ p2.toInt % 10) ∧ x25.toInt = 0) ∨ ((0 ≤ p1.toInt ∧ p1.toInt ≤ 99) ∧ p2.toInt ≠ -1 ∧ p2.toInt ≠ -2 ∧ ¬ (0 ≤ p2.toInt ∧ p2.toInt / 10 ≤ 5 ∧ p2.toInt % 10 ≤ 5 ∧ p2.toInt / 10 ≠ p2.toInt % 10) ∧ x25.toInt = -1)) := ⟨h8, (by omega)⟩
    exact ret _ _ _ _ x25 x7 dX12_inks_76 hpo hP hD hS
  have c6 := ci_nlt c6
  refine lv_iload_n hx hb dX12_inks_17 rfl (lv_at hl 2 rfl) ?_
  refine lv_bipush (v := 10) hx hb dX12_inks_18 (by decide) ?_
  refine lv_idiv hx hb dX12_inks_20 (by decide) ?_
  refine lv_topi (fun x28 e29 => ?_)
  have h30 := ci_divL (n := 10) (by decide) (by decide) e29
  refine kcm_i hA hAB hP hD hS [false] rfl (fun _ => rfl) (fun hPc hDc => va_runS (As := [.int x28]) (rest := []) ⟨hx, hb, hml, hown, hts⟩ (k_X12_isInk l D κ β H.size x28) (va_cwS 1 hts gX12_inks_X12_isInk rfl rfl rfl (by decide +kernel) ⟨Nat.le_of_ble_eq_true rfl, Nat.le_of_ble_eq_true rfl⟩) (pk_S hK hS hAB hPc hDc) rfl rfl hl.1 rfl (lv_room (Nat.le_of_ble_eq_true rfl)) dX12_inks_21 ⟨Nat.le_of_ble_eq_true rfl, Nat.le_of_ble_eq_true rfl⟩) (fun x31 u32 H locs hw hPD hS => ?_)
  have h33 : (x31.toInt = 1 ∧ 0 ≤ x28.toInt ∧ x28.toInt ≤ 5) ∨ (x31.toInt = 0 ∧ (x28.toInt < 0 ∨ 5 < x28.toInt)) := hw
  obtain ⟨hP, hD⟩ : PD D A [O12 a12 r12 v12_keptMany v12_done v12_sheets v12_holes v12_worms v12_laidMany v12_wanted v12_orderMany v12_firstOrder v12_lines v12_marks v12_dots v12_madeIn v12_bound v12_places v12_maps v12_tapeMany v12_stories v12_base v12_at v12_ends v12_fault v12_opened v12_bodies v12_ran v12_ownKind v12_ownNumber] H := hPD
  refine lv_if_eq (tgt := 48) hx hb dX12_inks_24 (by decide) (fun c34 => ?_) (fun c34 => ?_)
  · have c34 := ci_eq c34
    refine lv_iconst (v := (-1)) hx hb dX12_inks_48 (by decide) ?_
    have hpo : (0 ≤ v12_worms.toInt ∧ v12_worms.toInt ≤ 40) ∧ ((¬ (0 ≤ p1.toInt ∧ p1.toInt ≤ 99) ∧ ((-1) : Int32).toInt = -1) ∨ ((0 ≤ p1.toInt ∧ p1.toInt ≤ 99) ∧ (p2.toInt = -1 ∨ p2.toInt = -2) ∧ ((-1) : Int32).toInt = -2) ∨ ((0 ≤ p1.toInt ∧ p1.toInt ≤ 99) ∧ (0 ≤ p2.toInt ∧ p2.toInt / 10 ≤ 5 ∧ p2.toInt % 10 ≤ 5 ∧ p2.toInt / 10 ≠ p2.toInt % 10) ∧ ((-1) : Int32).toInt = 0) ∨ ((0 ≤ p1.toInt ∧ p1.toInt ≤ 99) ∧ p2.toInt ≠ -1 ∧ p2.toInt ≠ -2 ∧ ¬ (0 ≤ p2.toInt ∧ p2.toInt / 10 ≤ 5 ∧ p2.toInt % 10 ≤ 5 ∧ p2.toInt / 10 ≠ p2.toInt % 10) ∧ ((-1) : Int32).toInt = -1)) := ⟨i5, (by omega)⟩
    exact ret _ _ _ _ (-1) v12_worms dX12_inks_49 hpo hP hD hS
  have c34 := ci_ne c34
  refine lv_iload_n hx hb dX12_inks_27 rfl (lv_at hl 2 rfl) ?_
  refine lv_bipush (v := 10) hx hb dX12_inks_28 (by decide) ?_
  refine lv_irem hx hb dX12_inks_30 (by decide) ?_
  refine lv_topi (fun x35 e36 => ?_)
  have h37 := ci_remL (n := 10) (by decide) (by decide) e36
  refine kcm_i hA hAB hP hD hS [false] rfl (fun _ => rfl) (fun hPc hDc => va_runS (As := [.int x35]) (rest := []) ⟨hx, hb, hml, hown, hts⟩ (k_X12_isInk l D κ β H.size x35) (va_cwS 1 hts gX12_inks_X12_isInk rfl rfl rfl (by decide +kernel) ⟨Nat.le_of_ble_eq_true rfl, Nat.le_of_ble_eq_true rfl⟩) (pk_S hK hS hAB hPc hDc) rfl rfl hl.1 rfl (lv_room (Nat.le_of_ble_eq_true rfl)) dX12_inks_31 ⟨Nat.le_of_ble_eq_true rfl, Nat.le_of_ble_eq_true rfl⟩) (fun x38 u39 H locs hw hPD hS => ?_)
  have h40 : (x38.toInt = 1 ∧ 0 ≤ x35.toInt ∧ x35.toInt ≤ 5) ∨ (x38.toInt = 0 ∧ (x35.toInt < 0 ∨ 5 < x35.toInt)) := hw
  obtain ⟨hP, hD⟩ : PD D A [O12 a12 r12 v12_keptMany v12_done v12_sheets v12_holes v12_worms v12_laidMany v12_wanted v12_orderMany v12_firstOrder v12_lines v12_marks v12_dots v12_madeIn v12_bound v12_places v12_maps v12_tapeMany v12_stories v12_base v12_at v12_ends v12_fault v12_opened v12_bodies v12_ran v12_ownKind v12_ownNumber] H := hPD
  refine lv_if_eq (tgt := 48) hx hb dX12_inks_34 (by decide) (fun c41 => ?_) (fun c41 => ?_)
  · have c41 := ci_eq c41
    refine lv_iconst (v := (-1)) hx hb dX12_inks_48 (by decide) ?_
    have hpo : (0 ≤ v12_worms.toInt ∧ v12_worms.toInt ≤ 40) ∧ ((¬ (0 ≤ p1.toInt ∧ p1.toInt ≤ 99) ∧ ((-1) : Int32).toInt = -1) ∨ ((0 ≤ p1.toInt ∧ p1.toInt ≤ 99) ∧ (p2.toInt = -1 ∨ p2.toInt = -2) ∧ ((-1) : Int32).toInt = -2) ∨ ((0 ≤ p1.toInt ∧ p1.toInt ≤ 99) ∧ (0 ≤ p2.toInt ∧ p2.toInt / 10 ≤ 5 ∧ p2.toInt % 10 ≤ 5 ∧ p2.toInt / 10 ≠ p2.toInt % 10) ∧ ((-1) : Int32).toInt = 0) ∨ ((0 ≤ p1.toInt ∧ p1.toInt ≤ 99) ∧ p2.toInt ≠ -1 ∧ p2.toInt ≠ -2 ∧ ¬ (0 ≤ p2.toInt ∧ p2.toInt / 10 ≤ 5 ∧ p2.toInt % 10 ≤ 5 ∧ p2.toInt / 10 ≠ p2.toInt % 10) ∧ ((-1) : Int32).toInt = -1)) := ⟨i5, (by omega)⟩
    exact ret _ _ _ _ (-1) v12_worms dX12_inks_49 hpo hP hD hS
  have c41 := ci_ne c41
  refine lv_iload_n hx hb dX12_inks_37 rfl (lv_at hl 2 rfl) ?_
  refine lv_bipush (v := 10) hx hb dX12_inks_38 (by decide) ?_
  refine lv_idiv hx hb dX12_inks_40 (by decide) ?_
  refine lv_re e29 ?_
  refine lv_iload_n hx hb dX12_inks_41 rfl (lv_at hl 2 rfl) ?_
  refine lv_bipush (v := 10) hx hb dX12_inks_42 (by decide) ?_
  refine lv_irem hx hb dX12_inks_44 (by decide) ?_
  refine lv_re e36 ?_
  refine lv_icmp_ne (tgt := 50) hx hb dX12_inks_45 (by decide) (fun c42 => ?_) (fun c42 => ?_)
  · have c42 := ci_ne c42
    refine lv_aload_n hx hb dX12_inks_50 rfl (lv_at hl 0 rfl) ?_
    refine lv_iload_n hx hb dX12_inks_51 rfl (lv_at hl 1 rfl) ?_
    refine lv_iconst (v := (-1)) hx hb dX12_inks_52 (by decide) ?_
    refine kcm_v hA hAB hP hD hS [true] rfl (fun _ => rfl) (fun hPc hDc => va_runV (As := [.int p1, .int (-1)]) (rest := []) ⟨hx, hb, hml, hown, hts⟩ (k_X12_findWorms l D κ β a12 r12 v12_keptMany v12_done v12_sheets v12_holes v12_worms v12_laidMany v12_wanted v12_orderMany v12_firstOrder v12_lines v12_marks v12_dots v12_madeIn v12_bound v12_places v12_maps v12_tapeMany v12_stories v12_base v12_at v12_ends v12_fault v12_opened v12_bodies v12_ran v12_ownKind v12_ownNumber H.size p1 (-1) i1 i2 i3 i4 i5 i6 i7 i8 i9 i10 i11 i12 i13 i14 i15 i16 i17 (by omega) (by omega) (by omega) (by omega) (by omega) (by omega) (by omega) (by omega) (by omega) (by omega) (by omega) (by omega) (by omega) (by omega)) (cwV 2 hts gX12_inks_X12_findWorms rfl rfl rfl (by decide +kernel) ⟨Nat.le_of_ble_eq_true rfl, Nat.le_of_ble_eq_true rfl⟩) (pk_V hK hS hAB hPc hDc 0 (ci := 12) rfl rfl rfl) rfl rfl hl.1 rfl (lv_room (Nat.le_of_ble_eq_true rfl)) dX12_inks_53 ⟨Nat.le_of_ble_eq_true rfl, Nat.le_of_ble_eq_true rfl⟩) (fun x43 H locs hw hPD hS => ?_)
    obtain ⟨h44, h45⟩ : (0 ≤ x43.toInt ∧ x43.toInt ≤ 40) ∧ (x43.toInt = 0) := hw
    obtain ⟨hP, hD⟩ : PD D A [O12 a12 r12 v12_keptMany v12_done v12_sheets v12_holes x43 v12_laidMany v12_wanted v12_orderMany v12_firstOrder v12_lines v12_marks v12_dots v12_madeIn v12_bound v12_places v12_maps v12_tapeMany v12_stories v12_base v12_at v12_ends v12_fault v12_opened v12_bodies v12_ran v12_ownKind v12_ownNumber] H := hPD
    refine lv_iload_n hx hb dX12_inks_56 rfl (lv_at hl 2 rfl) ?_
    refine lv_if_ge (tgt := 77) hx hb dX12_inks_57 (by decide) (fun c46 => ?_) (fun c46 => ?_)
    · have c46 := ci_le c46
      refine lv_aload_n hx hb dX12_inks_77 rfl (lv_at hl 0 rfl) ?_
      refine lv_iload_n hx hb dX12_inks_78 rfl (lv_at hl 2 rfl) ?_
      refine lv_bipush (v := 10) hx hb dX12_inks_79 (by decide) ?_
      refine lv_idiv hx hb dX12_inks_81 (by decide) ?_
      refine lv_re e29 ?_
      refine lv_iload_n hx hb dX12_inks_82 rfl (lv_at hl 2 rfl) ?_
      refine lv_bipush (v := 10) hx hb dX12_inks_83 (by decide) ?_
      refine lv_irem hx hb dX12_inks_85 (by decide) ?_
      refine lv_re e36 ?_
      refine kcm_i hA hAB hP hD hS [true] rfl (fun _ => rfl) (fun hPc hDc => va_runV (As := [.int x28, .int x35]) (rest := []) ⟨hx, hb, hml, hown, hts⟩ (k_X12_cameFirst l D κ β a12 r12 v12_keptMany v12_done v12_sheets v12_holes x43 v12_laidMany v12_wanted v12_orderMany v12_firstOrder v12_lines v12_marks v12_dots v12_madeIn v12_bound v12_places v12_maps v12_tapeMany v12_stories v12_base v12_at v12_ends v12_fault v12_opened v12_bodies v12_ran v12_ownKind v12_ownNumber H.size x28 x35 i1 i2 i3 i4 h44 i6 i7 i8 i9 i10 i11 i12 i13 i14 i15 i16 i17 (by omega) (by omega) (by omega) (by omega) (by omega) (by omega) (by omega) (by omega) (by omega) (by omega) (by omega) (by omega) (by omega) (by omega)) (cwV 2 hts gX12_inks_X12_cameFirst rfl rfl rfl (by decide +kernel) ⟨Nat.le_of_ble_eq_true rfl, Nat.le_of_ble_eq_true rfl⟩) (pk_V hK hS hAB hPc hDc 0 (ci := 12) rfl rfl rfl) rfl rfl hl.1 rfl (lv_room (Nat.le_of_ble_eq_true rfl)) dX12_inks_86 ⟨Nat.le_of_ble_eq_true rfl, Nat.le_of_ble_eq_true rfl⟩) (fun x47 u48 H locs hw hPD hS => ?_)
      have h49 : x47.toInt = 0 := hw
      obtain ⟨hP, hD⟩ : PD D A [O12 a12 r12 v12_keptMany v12_done v12_sheets v12_holes x43 v12_laidMany v12_wanted v12_orderMany v12_firstOrder v12_lines v12_marks v12_dots v12_madeIn v12_bound v12_places v12_maps v12_tapeMany v12_stories v12_base v12_at v12_ends v12_fault v12_opened v12_bodies v12_ran v12_ownKind v12_ownNumber] H := hPD
      refine lv_if_eq (tgt := 96) hx hb dX12_inks_89 (by decide) (fun c50 => ?_) (fun c50 => ?_)
      · have c50 := ci_eq c50
        refine lv_iconst (v := 0) hx hb dX12_inks_96 (by decide) ?_
        have hpo : (0 ≤ x43.toInt ∧ x43.toInt ≤ 40) ∧ ((¬ (0 ≤ p1.toInt ∧ p1.toInt ≤ 99) ∧ (0 : Int32).toInt = -1) ∨ ((0 ≤ p1.toInt ∧ p1.toInt ≤ 99) ∧ (p2.toInt = -1 ∨ p2.toInt = -2) ∧ (0 : Int32).toInt = -2) ∨ ((0 ≤ p1.toInt ∧ p1.toInt ≤ 99) ∧ (0 ≤ p2.toInt ∧ p2.toInt / 10 ≤ 5 ∧ p2.toInt % 10 ≤ 5 ∧ p2.toInt / 10 ≠ p2.toInt % 10) ∧ (0 : Int32).toInt = 0) ∨ ((0 ≤ p1.toInt ∧ p1.toInt ≤ 99) ∧ p2.toInt ≠ -1 ∧ p2.toInt ≠ -2 ∧ ¬ (0 ≤ p2.toInt ∧ p2.toInt / 10 ≤ 5 ∧ p2.toInt % 10 ≤ 5 ∧ p2.toInt / 10 ≠ p2.toInt % 10) ∧ (0 : Int32).toInt = -1)) := ⟨h44, (by omega)⟩
        exact ret _ _ _ _ 0 x43 dX12_inks_97 hpo hP hD hS
      have c50 := ci_ne c50
      exfalso
      omega
    have c46 := ci_nle c46
    refine lv_iload_n hx hb dX12_inks_60 rfl (lv_at hl 2 rfl) ?_
    refine lv_iconst (v := (-1)) hx hb dX12_inks_61 (by decide) ?_
    refine lv_icmp_ne (tgt := 72) hx hb dX12_inks_62 (by decide) (fun c51 => ?_) (fun c51 => ?_)
    · have c51 := ci_ne c51
      refine lv_aload_n hx hb dX12_inks_72 rfl (lv_at hl 0 rfl) ?_
      refine kcm_i hA hAB hP hD hS [true] rfl (fun _ => rfl) (fun hPc hDc => va_runV (As := []) (rest := []) ⟨hx, hb, hml, hown, hts⟩ (k_X12_ringOf l D κ β a12 r12 v12_keptMany v12_done v12_sheets v12_holes x43 v12_laidMany v12_wanted v12_orderMany v12_firstOrder v12_lines v12_marks v12_dots v12_madeIn v12_bound v12_places v12_maps v12_tapeMany v12_stories v12_base v12_at v12_ends v12_fault v12_opened v12_bodies v12_ran v12_ownKind v12_ownNumber H.size i1 i2 i3 i4 h44 i6 i7 i8 i9 i10 i11 i12 i13 i14 i15 i16 i17 (by omega) (by omega) (by omega) (by omega) (by omega) (by omega) (by omega) (by omega) (by omega) (by omega) (by omega) (by omega) (by omega) (by omega)) (cwV 0 hts gX12_inks_X12_ringOf rfl rfl rfl (by decide +kernel) ⟨Nat.le_of_ble_eq_true rfl, Nat.le_of_ble_eq_true rfl⟩) (pk_V hK hS hAB hPc hDc 0 (ci := 12) rfl rfl rfl) rfl rfl hl.1 rfl (lv_room (Nat.le_of_ble_eq_true rfl)) dX12_inks_73 ⟨Nat.le_of_ble_eq_true rfl, Nat.le_of_ble_eq_true rfl⟩) (fun x52 u53 H locs hw hPD hS => ?_)
      have h54 : x52.toInt = -2 := hw
      obtain ⟨hP, hD⟩ : PD D A [O12 a12 r12 v12_keptMany v12_done v12_sheets v12_holes x43 v12_laidMany v12_wanted v12_orderMany v12_firstOrder v12_lines v12_marks v12_dots v12_madeIn v12_bound v12_places v12_maps v12_tapeMany v12_stories v12_base v12_at v12_ends v12_fault v12_opened v12_bodies v12_ran v12_ownKind v12_ownNumber] H := hPD
      have hpo : (0 ≤ x43.toInt ∧ x43.toInt ≤ 40) ∧ ((¬ (0 ≤ p1.toInt ∧ p1.toInt ≤ 99) ∧ x52.toInt = -1) ∨ ((0 ≤ p1.toInt ∧ p1.toInt ≤ 99) ∧ (p2.toInt = -1 ∨ p2.toInt = -2) ∧ x52.toInt = -2) ∨ ((0 ≤ p1.toInt ∧ p1.toInt ≤ 99) ∧ (0 ≤ p2.toInt ∧ p2.toInt / 10 ≤ 5 ∧ p2.toInt % 10 ≤ 5 ∧ p2.toInt / 10 ≠ p2.toInt % 10) ∧ x52.toInt = 0) ∨ ((0 ≤ p1.toInt ∧ p1.toInt ≤ 99) ∧ p2.toInt ≠ -1 ∧ p2.toInt ≠ -2 ∧ ¬ (0 ≤ p2.toInt ∧ p2.toInt / 10 ≤ 5 ∧ p2.toInt % 10 ≤ 5 ∧ p2.toInt / 10 ≠ p2.toInt % 10) ∧ x52.toInt = -1)) := ⟨h44, (by omega)⟩
      exact ret _ _ _ _ x52 x43 dX12_inks_76 hpo hP hD hS
    have c51 := ci_eq c51
    refine lv_aload_n hx hb dX12_inks_65 rfl (lv_at hl 0 rfl) ?_
    refine kcm_i hA hAB hP hD hS [true] rfl (fun _ => rfl) (fun hPc hDc => va_runV (As := []) (rest := []) ⟨hx, hb, hml, hown, hts⟩ (k_X12_firstInk l D κ β a12 r12 v12_keptMany v12_done v12_sheets v12_holes x43 v12_laidMany v12_wanted v12_orderMany v12_firstOrder v12_lines v12_marks v12_dots v12_madeIn v12_bound v12_places v12_maps v12_tapeMany v12_stories v12_base v12_at v12_ends v12_fault v12_opened v12_bodies v12_ran v12_ownKind v12_ownNumber H.size i1 i2 i3 i4 h44 i6 i7 i8 i9 i10 i11 i12 i13 i14 i15 i16 i17 (by omega) (by omega) (by omega) (by omega) (by omega) (by omega) (by omega) (by omega) (by omega) (by omega) (by omega) (by omega) (by omega) (by omega)) (cwV 0 hts gX12_inks_X12_firstInk rfl rfl rfl (by decide +kernel) ⟨Nat.le_of_ble_eq_true rfl, Nat.le_of_ble_eq_true rfl⟩) (pk_V hK hS hAB hPc hDc 0 (ci := 12) rfl rfl rfl) rfl rfl hl.1 rfl (lv_room (Nat.le_of_ble_eq_true rfl)) dX12_inks_66 ⟨Nat.le_of_ble_eq_true rfl, Nat.le_of_ble_eq_true rfl⟩) (fun x55 u56 H locs hw hPD hS => ?_)
    have h57 : x55.toInt = -2 := hw
    obtain ⟨hP, hD⟩ : PD D A [O12 a12 r12 v12_keptMany v12_done v12_sheets v12_holes x43 v12_laidMany v12_wanted v12_orderMany v12_firstOrder v12_lines v12_marks v12_dots v12_madeIn v12_bound v12_places v12_maps v12_tapeMany v12_stories v12_base v12_at v12_ends v12_fault v12_opened v12_bodies v12_ran v12_ownKind v12_ownNumber] H := hPD
    refine lv_goto (tgt := 76) hx hb dX12_inks_69 (by decide) ?_
    have hpo : (0 ≤ x43.toInt ∧ x43.toInt ≤ 40) ∧ ((¬ (0 ≤ p1.toInt ∧ p1.toInt ≤ 99) ∧ x55.toInt = -1) ∨ ((0 ≤ p1.toInt ∧ p1.toInt ≤ 99) ∧ (p2.toInt = -1 ∨ p2.toInt = -2) ∧ x55.toInt = -2) ∨ ((0 ≤ p1.toInt ∧ p1.toInt ≤ 99) ∧ (0 ≤ p2.toInt ∧ p2.toInt / 10 ≤ 5 ∧ p2.toInt % 10 ≤ 5 ∧ p2.toInt / 10 ≠ p2.toInt % 10) ∧ x55.toInt = 0) ∨ ((0 ≤ p1.toInt ∧ p1.toInt ≤ 99) ∧ p2.toInt ≠ -1 ∧ p2.toInt ≠ -2 ∧ ¬ (0 ≤ p2.toInt ∧ p2.toInt / 10 ≤ 5 ∧ p2.toInt % 10 ≤ 5 ∧ p2.toInt / 10 ≠ p2.toInt % 10) ∧ x55.toInt = -1)) := ⟨h44, (by omega)⟩
    exact ret _ _ _ _ x55 x43 dX12_inks_76 hpo hP hD hS
  have c42 := ci_eq c42
  refine lv_iconst (v := (-1)) hx hb dX12_inks_48 (by decide) ?_
  have hpo : (0 ≤ v12_worms.toInt ∧ v12_worms.toInt ≤ 40) ∧ ((¬ (0 ≤ p1.toInt ∧ p1.toInt ≤ 99) ∧ ((-1) : Int32).toInt = -1) ∨ ((0 ≤ p1.toInt ∧ p1.toInt ≤ 99) ∧ (p2.toInt = -1 ∨ p2.toInt = -2) ∧ ((-1) : Int32).toInt = -2) ∨ ((0 ≤ p1.toInt ∧ p1.toInt ≤ 99) ∧ (0 ≤ p2.toInt ∧ p2.toInt / 10 ≤ 5 ∧ p2.toInt % 10 ≤ 5 ∧ p2.toInt / 10 ≠ p2.toInt % 10) ∧ ((-1) : Int32).toInt = 0) ∨ ((0 ≤ p1.toInt ∧ p1.toInt ≤ 99) ∧ p2.toInt ≠ -1 ∧ p2.toInt ≠ -2 ∧ ¬ (0 ≤ p2.toInt ∧ p2.toInt / 10 ≤ 5 ∧ p2.toInt % 10 ≤ 5 ∧ p2.toInt / 10 ≠ p2.toInt % 10) ∧ ((-1) : Int32).toInt = -1)) := ⟨i5, (by omega)⟩
  exact ret _ _ _ _ (-1) v12_worms dX12_inks_49 hpo hP hD hS
