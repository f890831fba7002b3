set_option maxHeartbeats 4000000 in
set_option maxRecDepth 100000 in
theorem k_X12_within (l : Launch) (D : va_G) (κ : Nat → ClassId) (β : Nat) (sz : Nat) (p1 : Int64) (p2 : Int64) (p3 : Int64) : Met l yX12_within wsX12_within ({ frames := 0, cells := 0, slots := 0, locals := 0 } : Room) (PcK D κ β [] sz [.long p1, .long p2, .long p3]) (QiK D (fun (r : Int32) (u : Unit) => (r.toInt = 1 ∧ p2.toInt ≤ p1.toInt ∧ p1.toInt ≤ p3.toInt) ∨ (r.toInt = 0 ∧ (p1.toInt < p2.toInt ∨ p3.toInt < p1.toInt))) (fun (u : Unit) => []) [] sz) 0 0 (va_A [] sz) := by
  refine ofK_z (cc := cX12_within) (maxL := 6) (own := RX12) (by decide) rfl rfl (Nat.le_of_ble_eq_true rfl) ?_
  intro p e s m args below meth c Q A ls hsz hx hb hml hts hown hK hA hAB hP hD hl ret
  have hS : va_S A s.heap s.heap [] := va_S.rf
  have hl : lv_has ls 6 [(0, .long p1), (2, .long p2), (4, .long p3)] := hl
  have l0 : (0 : Int32).toInt = 0 := by decide
  have l1 : (1 : Int32).toInt = 1 := by decide
  refine lv_lload_n hx hb dX12_within_0 rfl (lv_at hl 0 rfl) ?_
  refine lv_lload_n hx hb dX12_within_1 rfl (lv_at hl 1 rfl) ?_
  refine W.lcmp hx hb dX12_within_2 ?_
  refine lv_topi (fun x1 e2 => ?_)
  have h3 := cl_cmp e2
  refine lv_if_lt (tgt := 17) hx hb dX12_within_3 (by decide) (fun c4 => ?_) (fun c4 => ?_)
  · have c4 := ci_lt c4
    refine lv_iconst (v := 0) hx hb dX12_within_17 (by decide) ?_
    have hpo : ((0 : Int32).toInt = 1 ∧ p2.toInt ≤ p1.toInt ∧ p1.toInt ≤ p3.toInt) ∨ ((0 : Int32).toInt = 0 ∧ (p1.toInt < p2.toInt ∨ p3.toInt < p1.toInt)) := (by omega)
    exact ret _ _ _ _ 0 () dX12_within_18 (by omega) hpo hP hD hS
  have c4 := ci_nlt c4
  refine lv_lload_n hx hb dX12_within_6 rfl (lv_at hl 0 rfl) ?_
  refine lv_lload hx hb dX12_within_7 (lv_at hl 2 rfl) ?_
  refine W.lcmp hx hb dX12_within_9 ?_
  refine lv_topi (fun x5 e6 => ?_)
  have h7 := cl_cmp e6
  refine lv_if_gt (tgt := 17) hx hb dX12_within_10 (by decide) (fun c8 => ?_) (fun c8 => ?_)
  · have c8 := ci_lt c8
    refine lv_iconst (v := 0) hx hb dX12_within_17 (by decide) ?_
    have hpo : ((0 : Int32).toInt = 1 ∧ p2.toInt ≤ p1.toInt ∧ p1.toInt ≤ p3.toInt) ∨ ((0 : Int32).toInt = 0 ∧ (p1.toInt < p2.toInt ∨ p3.toInt < p1.toInt)) := (by omega)
    exact ret _ _ _ _ 0 () dX12_within_18 (by omega) hpo hP hD hS
  have c8 := ci_nlt c8
  refine lv_iconst (v := 1) hx hb dX12_within_13 (by decide) ?_
  refine lv_goto (tgt := 18) hx hb dX12_within_14 (by decide) ?_
  have hpo : ((1 : Int32).toInt = 1 ∧ p2.toInt ≤ p1.toInt ∧ p1.toInt ≤ p3.toInt) ∨ ((1 : Int32).toInt = 0 ∧ (p1.toInt < p2.toInt ∨ p3.toInt < p1.toInt)) := (by omega)
  exact ret _ _ _ _ 1 () dX12_within_18 (by omega) hpo hP hD hS
set_option maxHeartbeats 4000000 in
set_option maxRecDepth 100000 in
theorem k_X12_size (l : Launch) (D : va_G) (κ : Nat → ClassId) (β : Nat) (sz : Nat) (p1 : Int32) : Met l yX12_size wsX12_size ({ frames := 0, cells := 0, slots := 0, locals := 0 } : Room) (PcK D κ β [] sz [.int p1]) (QiK D (fun (r : Int32) (u : Unit) => True) (fun (u : Unit) => []) [] sz) 0 0 (va_A [] sz) := by
  refine ofK_i (cc := cX12_size) (maxL := 1) (own := RX12) (by decide) rfl rfl (Nat.le_of_ble_eq_true rfl) ?_
  intro p e s m args below meth c Q A ls hsz hx hb hml hts hown hK hA hAB hP hD hl ret
  have hS : va_S A s.heap s.heap [] := va_S.rf
  have hl : lv_has ls 1 [(0, .int p1)] := hl
  have l0 : (0 : Int32).toInt = 0 := by decide
  refine lv_iload_n hx hb dX12_size_0 rfl (lv_at hl 0 rfl) ?_
  refine lv_if_ge (tgt := 9) hx hb dX12_size_1 (by decide) (fun c1 => ?_) (fun c1 => ?_)
  · have c1 := ci_le c1
    refine lv_iload_n hx hb dX12_size_9 rfl (lv_at hl 0 rfl) ?_
    exact ret _ _ _ _ p1 () dX12_size_10 trivial hP hD hS
  have c1 := ci_nle c1
  refine lv_iload_n hx hb dX12_size_4 rfl (lv_at hl 0 rfl) ?_
  refine lv_ineg hx hb dX12_size_5 ?_
  refine lv_topi (fun x2 e3 => ?_)
  try have h4 : x2.toInt = -p1.toInt := ci_neg e3 (by omega)
  refine lv_goto (tgt := 10) hx hb dX12_size_6 (by decide) ?_
  exact ret _ _ _ _ x2 () dX12_size_10 trivial hP hD hS
set_option maxHeartbeats 4000000 in
set_option maxRecDepth 100000 in
theorem k_X12_isSheet (l : Launch) (D : va_G) (κ : Nat → ClassId) (β : Nat) (a12 : Nat) (r12 : Nat → Nat) (v12_keptMany : Int32) (v12_done : Int32) (v12_sheets : Int32) (v12_holes : Int32) (v12_worms : Int32) (v12_laidMany : Int32) (v12_wanted : Int32) (v12_orderMany : Int32) (v12_firstOrder : Int32) (v12_lines : Int32) (v12_marks : Int32) (v12_dots : Int32) (v12_madeIn : Int32) (v12_bound : Int32) (v12_places : Int32) (v12_maps : Int32) (v12_tapeMany : Int32) (v12_stories : Int32) (v12_base : Int32) (v12_at : Int32) (v12_ends : Int32) (v12_fault : Int32) (v12_opened : Int32) (v12_bodies : Int32) (v12_ran : Int32) (v12_ownKind : Int32) (v12_ownNumber : Int32) (sz : Nat) (p1 : Int32) (i1 : Rg 0 40 v12_keptMany) (i2 : Rg 0 40 v12_done) (i3 : Rg 0 8 v12_sheets) (i4 : Rg 0 40 v12_holes) (i5 : Rg 0 40 v12_worms) (i6 : Rg 0 8 v12_laidMany) (i7 : Rg 0 8 v12_wanted) (i8 : Rg 0 20 v12_lines) (i9 : Rg 0 60 v12_marks) (i10 : Rg 0 40 v12_dots) (i11 : Rg 0 20 v12_places) (i12 : Rg 0 8 v12_maps) (i13 : Rg 0 120 v12_tapeMany) (i14 : Rg 0 6 v12_stories) (i15 : Rg 0 50 v12_bodies) (i16 : Rg 0 1000 v12_ran) (i17 : v12_done.toInt ≤ v12_keptMany.toInt) : Met l yX12_isSheet wsX12_isSheet ({ frames := 1, cells := 0, slots := 0, locals := 25 } : Room) (PcK D κ β [O12 a12 r12 v12_keptMany v12_done v12_sheets v12_holes v12_worms v12_laidMany v12_wanted v12_orderMany v12_firstOrder v12_lines v12_marks v12_dots v12_madeIn v12_bound v12_places v12_maps v12_tapeMany v12_stories v12_base v12_at v12_ends v12_fault v12_opened v12_bodies v12_ran v12_ownKind v12_ownNumber] sz [.ref a12, .int p1]) (QiK D (fun (r : Int32) (u : Unit) => (r.toInt = 1 ∧ 0 ≤ p1.toInt ∧ p1.toInt < v12_sheets.toInt) ∨ (r.toInt = 0 ∧ (p1.toInt < 0 ∨ v12_sheets.toInt ≤ p1.toInt))) (fun (u : Unit) => [O12 a12 r12 v12_keptMany v12_done v12_sheets v12_holes v12_worms v12_laidMany v12_wanted v12_orderMany v12_firstOrder v12_lines v12_marks v12_dots v12_madeIn v12_bound v12_places v12_maps v12_tapeMany v12_stories v12_base v12_at v12_ends v12_fault v12_opened v12_bodies v12_ran v12_ownKind v12_ownNumber]) [O12 a12 r12 v12_keptMany v12_done v12_sheets v12_holes v12_worms v12_laidMany v12_wanted v12_orderMany v12_firstOrder v12_lines v12_marks v12_dots v12_madeIn v12_bound v12_places v12_maps v12_tapeMany v12_stories v12_base v12_at v12_ends v12_fault v12_opened v12_bodies v12_ran v12_ownKind v12_ownNumber] sz) 0 0 (va_A [O12 a12 r12 v12_keptMany v12_done v12_sheets v12_holes v12_worms v12_laidMany v12_wanted v12_orderMany v12_firstOrder v12_lines v12_marks v12_dots v12_madeIn v12_bound v12_places v12_maps v12_tapeMany v12_stories v12_base v12_at v12_ends v12_fault v12_opened v12_bodies v12_ran v12_ownKind v12_ownNumber] sz) := by
  refine ofK_z (cc := cX12_isSheet) (maxL := 2) (own := RX12) (by decide) rfl rfl (Nat.le_of_ble_eq_true rfl) ?_
  intro p e s m args below meth c Q A ls hsz hx hb hml hts hown hK hA hAB hP hD hl ret
  have hS : va_S A s.heap s.heap [] := va_S.rf
  have hl : lv_has ls 2 [(0, .ref a12), (1, .int p1)] := hl
  have w0 := hts (.fieldLink RX12 133 "OlderSkinModel" "sheets" "I") (List.mem_of_getElem? (i := 1) rfl)
  have w1 := (fun w h => List.mem_cons_of_mem _ (List.mem_append_right _ h) : ∀ w ∈ u_ws RX12 TX12 63, w ∈ wsX12_isSheet)
  have l0 : (0 : Int64).toInt = 0 := by decide
  have l1 : (1 : Int32).toInt = 1 := by decide
  have i3 : 0 ≤ v12_sheets.toInt ∧ v12_sheets.toInt ≤ 8 := i3
  refine lv_iload_n hx hb dX12_isSheet_0 rfl (lv_at hl 1 rfl) ?_
  refine lv_i2l hx hb dX12_isSheet_1 rfl ?_
  refine lv_topl (fun x1 e2 => ?_)
  have h3 : x1.toInt = p1.toInt := cl_i2l e2
  refine lv_lconst (v := (0 : Int64)) hx hb dX12_isSheet_2 (by decide) ?_
  refine lv_aload_n hx hb dX12_isSheet_3 rfl (lv_at hl 0 rfl) ?_
  refine va_get (D := D) (ci := 12) (v := .int v12_sheets) (C := RX12) (T := TX12) (N := 63) hx hb hts w1 hown hK.1 hP 0 rfl rfl 6 (by decide) w0 (fun _ h9 => h9) rfl dX12_isSheet_4 ?_
  refine lv_iconst (v := 1) hx hb dX12_isSheet_7 (by decide) ?_
  refine lv_isub hx hb dX12_isSheet_8 ?_
  refine lv_topi (fun x4 e5 => ?_)
  try have h6 : x4.toInt = v12_sheets.toInt - (1 : Int32).toInt := ci_sub e5 (by omega) (by omega)
  refine lv_i2l hx hb dX12_isSheet_9 rfl ?_
  refine lv_topl (fun x7 e8 => ?_)
  have h9 : x7.toInt = x4.toInt := cl_i2l e8
  refine kcm_i hA hAB hP hD hS [false] rfl (fun _ => rfl) (fun hPc hDc => va_runS (As := [.long x1, .long (0 : Int64), .long x7]) (rest := []) ⟨hx, hb, hml, hown, hts⟩ (k_X12_within l D κ β s.heap.size x1 (0 : Int64) x7) (va_cwS 3 hts gX12_isSheet_X12_within rfl rfl rfl (by decide +kernel) ⟨Nat.le_of_ble_eq_true rfl, Nat.le_of_ble_eq_true rfl⟩) (pk_S hK hS hAB hPc hDc) rfl rfl hl.1 rfl (lv_room (Nat.le_of_ble_eq_true rfl)) dX12_isSheet_10 ⟨Nat.le_of_ble_eq_true rfl, Nat.le_of_ble_eq_true rfl⟩) (fun x10 u11 H locs hw hPD hS => ?_)
  have h12 : (x10.toInt = 1 ∧ (0 : Int64).toInt ≤ x1.toInt ∧ x1.toInt ≤ x7.toInt) ∨ (x10.toInt = 0 ∧ (x1.toInt < (0 : Int64).toInt ∨ x7.toInt < x1.toInt)) := hw
  obtain ⟨hP, hD⟩ : PD D A [O12 a12 r12 v12_keptMany v12_done v12_sheets v12_holes v12_worms v12_laidMany v12_wanted v12_orderMany v12_firstOrder v12_lines v12_marks v12_dots v12_madeIn v12_bound v12_places v12_maps v12_tapeMany v12_stories v12_base v12_at v12_ends v12_fault v12_opened v12_bodies v12_ran v12_ownKind v12_ownNumber] H := hPD
  have hpo : (x10.toInt = 1 ∧ 0 ≤ p1.toInt ∧ p1.toInt < v12_sheets.toInt) ∨ (x10.toInt = 0 ∧ (p1.toInt < 0 ∨ v12_sheets.toInt ≤ p1.toInt)) := (by omega)
  exact ret _ _ _ _ x10 () dX12_isSheet_13 (by omega) hpo hP hD hS
set_option maxHeartbeats 4000000 in
set_option maxRecDepth 100000 in
theorem k_X12_isHole (l : Launch) (D : va_G) (κ : Nat → ClassId) (β : Nat) (a12 : Nat) (r12 : Nat → Nat) (v12_keptMany : Int32) (v12_done : Int32) (v12_sheets : Int32) (v12_holes : Int32) (v12_worms : Int32) (v12_laidMany : Int32) (v12_wanted : Int32) (v12_orderMany : Int32) (v12_firstOrder : Int32) (v12_lines : Int32) (v12_marks : Int32) (v12_dots : Int32) (v12_madeIn : Int32) (v12_bound : Int32) (v12_places : Int32) (v12_maps : Int32) (v12_tapeMany : Int32) (v12_stories : Int32) (v12_base : Int32) (v12_at : Int32) (v12_ends : Int32) (v12_fault : Int32) (v12_opened : Int32) (v12_bodies : Int32) (v12_ran : Int32) (v12_ownKind : Int32) (v12_ownNumber : Int32) (sz : Nat) (p1 : Int32) (i1 : Rg 0 40 v12_keptMany) (i2 : Rg 0 40 v12_done) (i3 : Rg 0 8 v12_sheets) (i4 : Rg 0 40 v12_holes) (i5 : Rg 0 40 v12_worms) (i6 : Rg 0 8 v12_laidMany) (i7 : Rg 0 8 v12_wanted) (i8 : Rg 0 20 v12_lines) (i9 : Rg 0 60 v12_marks) (i10 : Rg 0 40 v12_dots) (i11 : Rg 0 20 v12_places) (i12 : Rg 0 8 v12_maps) (i13 : Rg 0 120 v12_tapeMany) (i14 : Rg 0 6 v12_stories) (i15 : Rg 0 50 v12_bodies) (i16 : Rg 0 1000 v12_ran) (i17 : v12_done.toInt ≤ v12_keptMany.toInt) : Met l yX12_isHole wsX12_isHole ({ frames := 1, cells := 0, slots := 0, locals := 25 } : Room) (PcK D κ β [O12 a12 r12 v12_keptMany v12_done v12_sheets v12_holes v12_worms v12_laidMany v12_wanted v12_orderMany v12_firstOrder v12_lines v12_marks v12_dots v12_madeIn v12_bound v12_places v12_maps v12_tapeMany v12_stories v12_base v12_at v12_ends v12_fault v12_opened v12_bodies v12_ran v12_ownKind v12_ownNumber] sz [.ref a12, .int p1]) (QiK D (fun (r : Int32) (u : Unit) => (r.toInt = 1 ∧ 0 ≤ p1.toInt ∧ p1.toInt < v12_holes.toInt) ∨ (r.toInt = 0 ∧ (p1.toInt < 0 ∨ v12_holes.toInt ≤ p1.toInt))) (fun (u : Unit) => [O12 a12 r12 v12_keptMany v12_done v12_sheets v12_holes v12_worms v12_laidMany v12_wanted v12_orderMany v12_firstOrder v12_lines v12_marks v12_dots v12_madeIn v12_bound v12_places v12_maps v12_tapeMany v12_stories v12_base v12_at v12_ends v12_fault v12_opened v12_bodies v12_ran v12_ownKind v12_ownNumber]) [O12 a12 r12 v12_keptMany v12_done v12_sheets v12_holes v12_worms v12_laidMany v12_wanted v12_orderMany v12_firstOrder v12_lines v12_marks v12_dots v12_madeIn v12_bound v12_places v12_maps v12_tapeMany v12_stories v12_base v12_at v12_ends v12_fault v12_opened v12_bodies v12_ran v12_ownKind v12_ownNumber] sz) 0 0 (va_A [O12 a12 r12 v12_keptMany v12_done v12_sheets v12_holes v12_worms v12_laidMany v12_wanted v12_orderMany v12_firstOrder v12_lines v12_marks v12_dots v12_madeIn v12_bound v12_places v12_maps v12_tapeMany v12_stories v12_base v12_at v12_ends v12_fault v12_opened v12_bodies v12_ran v12_ownKind v12_ownNumber] sz) := by
  refine ofK_z (cc := cX12_isHole) (maxL := 2) (own := RX12) (by decide) rfl rfl (Nat.le_of_ble_eq_true rfl) ?_
  intro p e s m args below meth c Q A ls hsz hx hb hml hts hown hK hA hAB hP hD hl ret
  have hS : va_S A s.heap s.heap [] := va_S.rf
  have hl : lv_has ls 2 [(0, .ref a12), (1, .int p1)] := hl
  have w0 := hts (.fieldLink RX12 140 "OlderSkinModel" "holes" "I") (List.mem_of_getElem? (i := 1) rfl)
  have w1 := (fun w h => List.mem_cons_of_mem _ (List.mem_append_right _ h) : ∀ w ∈ u_ws RX12 TX12 63, w ∈ wsX12_isHole)
  have l0 : (0 : Int64).toInt = 0 := by decide
  have l1 : (1 : Int32).toInt = 1 := by decide
  have i4 : 0 ≤ v12_holes.toInt ∧ v12_holes.toInt ≤ 40 := i4
  refine lv_iload_n hx hb dX12_isHole_0 rfl (lv_at hl 1 rfl) ?_
  refine lv_i2l hx hb dX12_isHole_1 rfl ?_
  refine lv_topl (fun x1 e2 => ?_)
  have h3 : x1.toInt = p1.toInt := cl_i2l e2
  refine lv_lconst (v := (0 : Int64)) hx hb dX12_isHole_2 (by decide) ?_
  refine lv_aload_n hx hb dX12_isHole_3 rfl (lv_at hl 0 rfl) ?_
  refine va_get (D := D) (ci := 12) (v := .int v12_holes) (C := RX12) (T := TX12) (N := 63) hx hb hts w1 hown hK.1 hP 0 rfl rfl 7 (by decide) w0 (fun _ h9 => h9) rfl dX12_isHole_4 ?_
  refine lv_iconst (v := 1) hx hb dX12_isHole_7 (by decide) ?_
  refine lv_isub hx hb dX12_isHole_8 ?_
  refine lv_topi (fun x4 e5 => ?_)
  try have h6 : x4.toInt = v12_holes.toInt - (1 : Int32).toInt := ci_sub e5 (by omega) (by omega)
  refine lv_i2l hx hb dX12_isHole_9 rfl ?_
  refine lv_topl (fun x7 e8 => ?_)
  have h9 : x7.toInt = x4.toInt := cl_i2l e8
  refine kcm_i hA hAB hP hD hS [false] rfl (fun _ => rfl) (fun hPc hDc => va_runS (As := [.long x1, .long (0 : Int64), .long x7]) (rest := []) ⟨hx, hb, hml, hown, hts⟩ (k_X12_within l D κ β s.heap.size x1 (0 : Int64) x7) (va_cwS 3 hts gX12_isHole_X12_within rfl rfl rfl (by decide +kernel) ⟨Nat.le_of_ble_eq_true rfl, Nat.le_of_ble_eq_true rfl⟩) (pk_S hK hS hAB hPc hDc) rfl rfl hl.1 rfl (lv_room (Nat.le_of_ble_eq_true rfl)) dX12_isHole_10 ⟨Nat.le_of_ble_eq_true rfl, Nat.le_of_ble_eq_true rfl⟩) (fun x10 u11 H locs hw hPD hS => ?_)
  have h12 : (x10.toInt = 1 ∧ (0 : Int64).toInt ≤ x1.toInt ∧ x1.toInt ≤ x7.toInt) ∨ (x10.toInt = 0 ∧ (x1.toInt < (0 : Int64).toInt ∨ x7.toInt < x1.toInt)) := hw
  obtain ⟨hP, hD⟩ : PD D A [O12 a12 r12 v12_keptMany v12_done v12_sheets v12_holes v12_worms v12_laidMany v12_wanted v12_orderMany v12_firstOrder v12_lines v12_marks v12_dots v12_madeIn v12_bound v12_places v12_maps v12_tapeMany v12_stories v12_base v12_at v12_ends v12_fault v12_opened v12_bodies v12_ran v12_ownKind v12_ownNumber] H := hPD
  have hpo : (x10.toInt = 1 ∧ 0 ≤ p1.toInt ∧ p1.toInt < v12_holes.toInt) ∨ (x10.toInt = 0 ∧ (p1.toInt < 0 ∨ v12_holes.toInt ≤ p1.toInt)) := (by omega)
  exact ret _ _ _ _ x10 () dX12_isHole_13 (by omega) hpo hP hD hS
set_option maxHeartbeats 4000000 in
set_option maxRecDepth 100000 in
theorem k_X12_isYear (l : Launch) (D : va_G) (κ : Nat → ClassId) (β : Nat) (sz : Nat) (p1 : Int32) : Met l yX12_isYear wsX12_isYear ({ frames := 1, cells := 0, slots := 0, locals := 25 } : Room) (PcK D κ β [] sz [.int p1]) (QiK D (fun (r : Int32) (u : Unit) => (r.toInt = 1 ∧ 0 ≤ p1.toInt ∧ p1.toInt ≤ 2000) ∨ (r.toInt = 0 ∧ (p1.toInt < 0 ∨ 2000 < p1.toInt))) (fun (u : Unit) => []) [] sz) 0 0 (va_A [] sz) := by
  refine ofK_z (cc := cX12_isYear) (maxL := 1) (own := RX12) (by decide) rfl rfl (Nat.le_of_ble_eq_true rfl) ?_
  intro p e s m args below meth c Q A ls hsz hx hb hml hts hown hK hA hAB hP hD hl ret
  have hS : va_S A s.heap s.heap [] := va_S.rf
  have hl : lv_has ls 1 [(0, .int p1)] := hl
  have w0 := hts (.constantLong RX12 143 (2000)) (List.mem_of_getElem? (i := 1) rfl)
  have l0 : (0 : Int64).toInt = 0 := by decide
  have l1 : (2000 : Int64).toInt = 2000 := by decide
  refine lv_iload_n hx hb dX12_isYear_0 rfl (lv_at hl 0 rfl) ?_
  refine lv_i2l hx hb dX12_isYear_1 rfl ?_
  refine lv_topl (fun x1 e2 => ?_)
  have h3 : x1.toInt = p1.toInt := cl_i2l e2
  refine lv_lconst (v := (0 : Int64)) hx hb dX12_isYear_2 (by decide) ?_
  refine lv_ldc2 (v := (2000 : Int64)) hx hb hown w0 dX12_isYear_3 ?_
  refine kcm_i hA hAB hP hD hS [] rfl (fun _ => rfl) (fun hPc hDc => va_runS (As := [.long x1, .long (0 : Int64), .long (2000 : Int64)]) (rest := []) ⟨hx, hb, hml, hown, hts⟩ (k_X12_within l D κ β s.heap.size x1 (0 : Int64) (2000 : Int64)) (va_cwS 3 hts gX12_isYear_X12_within rfl rfl rfl (by decide +kernel) ⟨Nat.le_of_ble_eq_true rfl, Nat.le_of_ble_eq_true rfl⟩) (pk_S hK hS hAB hPc hDc) rfl rfl hl.1 rfl (lv_room (Nat.le_of_ble_eq_true rfl)) dX12_isYear_6 ⟨Nat.le_of_ble_eq_true rfl, Nat.le_of_ble_eq_true rfl⟩) (fun x4 u5 H locs hw hPD hS => ?_)
  have h6 : (x4.toInt = 1 ∧ (0 : Int64).toInt ≤ x1.toInt ∧ x1.toInt ≤ (2000 : Int64).toInt) ∨ (x4.toInt = 0 ∧ (x1.toInt < (0 : Int64).toInt ∨ (2000 : Int64).toInt < x1.toInt)) := hw
  obtain ⟨hP, hD⟩ : PD D A [] H := hPD
  have hpo : (x4.toInt = 1 ∧ 0 ≤ p1.toInt ∧ p1.toInt ≤ 2000) ∨ (x4.toInt = 0 ∧ (p1.toInt < 0 ∨ 2000 < p1.toInt)) := (by omega)
  exact ret _ _ _ _ x4 () dX12_isYear_9 (by omega) hpo hP hD hS
set_option maxHeartbeats 4000000 in
set_option maxRecDepth 100000 in
theorem k_X12_isSlack (l : Launch) (D : va_G) (κ : Nat → ClassId) (β : Nat) (sz : Nat) (p1 : Int32) : Met l yX12_isSlack wsX12_isSlack ({ frames := 1, cells := 0, slots := 0, locals := 25 } : Room) (PcK D κ β [] sz [.int p1]) (QiK D (fun (r : Int32) (u : Unit) => (r.toInt = 1 ∧ 0 ≤ p1.toInt ∧ p1.toInt ≤ 99) ∨ (r.toInt = 0 ∧ (p1.toInt < 0 ∨ 99 < p1.toInt))) (fun (u : Unit) => []) [] sz) 0 0 (va_A [] sz) := by
  refine ofK_z (cc := cX12_isSlack) (maxL := 1) (own := RX12) (by decide) rfl rfl (Nat.le_of_ble_eq_true rfl) ?_
  intro p e s m args below meth c Q A ls hsz hx hb hml hts hown hK hA hAB hP hD hl ret
  have hS : va_S A s.heap s.heap [] := va_S.rf
  have hl : lv_has ls 1 [(0, .int p1)] := hl
  have w0 := hts (.constantLong RX12 145 (99)) (List.mem_of_getElem? (i := 1) rfl)
  have l0 : (0 : Int64).toInt = 0 := by decide
  have l1 : (99 : Int64).toInt = 99 := by decide
  refine lv_iload_n hx hb dX12_isSlack_0 rfl (lv_at hl 0 rfl) ?_
  refine lv_i2l hx hb dX12_isSlack_1 rfl ?_
  refine lv_topl (fun x1 e2 => ?_)
  have h3 : x1.toInt = p1.toInt := cl_i2l e2
  refine lv_lconst (v := (0 : Int64)) hx hb dX12_isSlack_2 (by decide) ?_
  refine lv_ldc2 (v := (99 : Int64)) hx hb hown w0 dX12_isSlack_3 ?_
  refine kcm_i hA hAB hP hD hS [] rfl (fun _ => rfl) (fun hPc hDc => va_runS (As := [.long x1, .long (0 : Int64), .long (99 : Int64)]) (rest := []) ⟨hx, hb, hml, hown, hts⟩ (k_X12_within l D κ β s.heap.size x1 (0 : Int64) (99 : Int64)) (va_cwS 3 hts gX12_isSlack_X12_within rfl rfl rfl (by decide +kernel) ⟨Nat.le_of_ble_eq_true rfl, Nat.le_of_ble_eq_true rfl⟩) (pk_S hK hS hAB hPc hDc) rfl rfl hl.1 rfl (lv_room (Nat.le_of_ble_eq_true rfl)) dX12_isSlack_6 ⟨Nat.le_of_ble_eq_true rfl, Nat.le_of_ble_eq_true rfl⟩) (fun x4 u5 H locs hw hPD hS => ?_)
  have h6 : (x4.toInt = 1 ∧ (0 : Int64).toInt ≤ x1.toInt ∧ x1.toInt ≤ (99 : Int64).toInt) ∨ (x4.toInt = 0 ∧ (x1.toInt < (0 : Int64).toInt ∨ (99 : Int64).toInt < x1.toInt)) := hw
  obtain ⟨hP, hD⟩ : PD D A [] H := hPD
  have hpo : (x4.toInt = 1 ∧ 0 ≤ p1.toInt ∧ p1.toInt ≤ 99) ∨ (x4.toInt = 0 ∧ (p1.toInt < 0 ∨ 99 < p1.toInt)) := (by omega)
  exact ret _ _ _ _ x4 () dX12_isSlack_9 (by omega) hpo hP hD hS
set_option maxHeartbeats 4000000 in
set_option maxRecDepth 100000 in
theorem k_X12_isInk (l : Launch) (D : va_G) (κ : Nat → ClassId) (β : Nat) (sz : Nat) (p1 : Int32) : Met l yX12_isInk wsX12_isInk ({ frames := 1, cells := 0, slots := 0, locals := 25 } : Room) (PcK D κ β [] sz [.int p1]) (QiK D (fun (r : Int32) (u : Unit) => (r.toInt = 1 ∧ 0 ≤ p1.toInt ∧ p1.toInt ≤ 5) ∨ (r.toInt = 0 ∧ (p1.toInt < 0 ∨ 5 < p1.toInt))) (fun (u : Unit) => []) [] sz) 0 0 (va_A [] sz) := by
  refine ofK_z (cc := cX12_isInk) (maxL := 1) (own := RX12) (by decide) rfl rfl (Nat.le_of_ble_eq_true rfl) ?_
  intro p e s m args below meth c Q A ls hsz hx hb hml hts hown hK hA hAB hP hD hl ret
  have hS : va_S A s.heap s.heap [] := va_S.rf
  have hl : lv_has ls 1 [(0, .int p1)] := hl
  have w0 := hts (.constantLong RX12 195 (5)) (List.mem_of_getElem? (i := 1) rfl)
  have l0 : (0 : Int64).toInt = 0 := by decide
  have l1 : (5 : Int64).toInt = 5 := by decide
  refine lv_iload_n hx hb dX12_isInk_0 rfl (lv_at hl 0 rfl) ?_
  refine lv_i2l hx hb dX12_isInk_1 rfl ?_
  refine lv_topl (fun x1 e2 => ?_)
  have h3 : x1.toInt = p1.toInt := cl_i2l e2
  refine lv_lconst (v := (0 : Int64)) hx hb dX12_isInk_2 (by decide) ?_
  refine lv_ldc2 (v := (5 : Int64)) hx hb hown w0 dX12_isInk_3 ?_
  refine kcm_i hA hAB hP hD hS [] rfl (fun _ => rfl) (fun hPc hDc => va_runS (As := [.long x1, .long (0 : Int64), .long (5 : Int64)]) (rest := []) ⟨hx, hb, hml, hown, hts⟩ (k_X12_within l D κ β s.heap.size x1 (0 : Int64) (5 : Int64)) (va_cwS 3 hts gX12_isInk_X12_within rfl rfl rfl (by decide +kernel) ⟨Nat.le_of_ble_eq_true rfl, Nat.le_of_ble_eq_true rfl⟩) (pk_S hK hS hAB hPc hDc) rfl rfl hl.1 rfl (lv_room (Nat.le_of_ble_eq_true rfl)) dX12_isInk_6 ⟨Nat.le_of_ble_eq_true rfl, Nat.le_of_ble_eq_true rfl⟩) (fun x4 u5 H locs hw hPD hS => ?_)
  have h6 : (x4.toInt = 1 ∧ (0 : Int64).toInt ≤ x1.toInt ∧ x1.toInt ≤ (5 : Int64).toInt) ∨ (x4.toInt = 0 ∧ (x1.toInt < (0 : Int64).toInt ∨ (5 : Int64).toInt < x1.toInt)) := hw
  obtain ⟨hP, hD⟩ : PD D A [] H := hPD
  have hpo : (x4.toInt = 1 ∧ 0 ≤ p1.toInt ∧ p1.toInt ≤ 5) ∨ (x4.toInt = 0 ∧ (p1.toInt < 0 ∨ 5 < p1.toInt)) := (by omega)
  exact ret _ _ _ _ x4 () dX12_isInk_9 (by omega) hpo hP hD hS
set_option maxHeartbeats 4000000 in
set_option maxRecDepth 100000 in
theorem k_X12_isDot (l : Launch) (D : va_G) (κ : Nat → ClassId) (β : Nat) (sz : Nat) (p1 : Int32) (p2 : Int32) (p3 : Int32) : Met l yX12_isDot wsX12_isDot ({ frames := 1, cells := 0, slots := 0, locals := 25 } : Room) (PcK D κ β [] sz [.int p1, .int p2, .int p3]) (QiK D (fun (r : Int32) (u : Unit) => (r.toInt = 1 ∧ 0 ≤ p1.toInt ∧ p1.toInt ≤ 4 ∧ 0 ≤ p2.toInt ∧ p2.toInt ≤ 7 ∧ 0 ≤ p3.toInt ∧ p3.toInt ≤ 9999) ∨ (r.toInt = 0 ∧ (p1.toInt < 0 ∨ 4 < p1.toInt ∨ p2.toInt < 0 ∨ 7 < p2.toInt ∨ p3.toInt < 0 ∨ 9999 < p3.toInt))) (fun (u : Unit) => []) [] sz) 0 0 (va_A [] sz) := by
  refine ofK_z (cc := cX12_isDot) (maxL := 3) (own := RX12) (by decide) rfl rfl (Nat.le_of_ble_eq_true rfl) ?_
  intro p e s m args below meth c Q A ls hsz hx hb hml hts hown hK hA hAB hP hD hl ret
  have hS : va_S A s.heap s.heap [] := va_S.rf
  have hl : lv_has ls 3 [(0, .int p1), (1, .int p2), (2, .int p3)] := hl
  have w0 := hts (.constantLong RX12 221 (4)) (List.mem_of_getElem? (i := 1) rfl)
  have w1 := hts (.constantLong RX12 223 (7)) (List.mem_of_getElem? (i := 2) rfl)
  have w2 := hts (.constantLong RX12 225 (9999)) (List.mem_of_getElem? (i := 3) rfl)
  have l0 : (0 : Int64).toInt = 0 := by decide
  have l1 : (4 : Int64).toInt = 4 := by decide
  have l2 : (0 : Int32).toInt = 0 := by decide
  have l3 : (7 : Int64).toInt = 7 := by decide
  have l4 : (9999 : Int64).toInt = 9999 := by decide
  have l5 : (1 : Int32).toInt = 1 := by decide
  refine lv_iload_n hx hb dX12_isDot_0 rfl (lv_at hl 0 rfl) ?_
  refine lv_i2l hx hb dX12_isDot_1 rfl ?_
  refine lv_topl (fun x1 e2 => ?_)
  have h3 : x1.toInt = p1.toInt := cl_i2l e2
  refine lv_lconst (v := (0 : Int64)) hx hb dX12_isDot_2 (by decide) ?_
  refine lv_ldc2 (v := (4 : Int64)) hx hb hown w0 dX12_isDot_3 ?_
  refine kcm_i hA hAB hP hD hS [] rfl (fun _ => rfl) (fun hPc hDc => va_runS (As := [.long x1, .long (0 : Int64), .long (4 : Int64)]) (rest := []) ⟨hx, hb, hml, hown, hts⟩ (k_X12_within l D κ β s.heap.size x1 (0 : Int64) (4 : Int64)) (va_cwS 3 hts gX12_isDot_X12_within rfl rfl rfl (by decide +kernel) ⟨Nat.le_of_ble_eq_true rfl, Nat.le_of_ble_eq_true rfl⟩) (pk_S hK hS hAB hPc hDc) rfl rfl hl.1 rfl (lv_room (Nat.le_of_ble_eq_true rfl)) dX12_isDot_6 ⟨Nat.le_of_ble_eq_true rfl, Nat.le_of_ble_eq_true rfl⟩) (fun x4 u5 H locs hw hPD hS => ?_)
  have h6 : (x4.toInt = 1 ∧ (0 : Int64).toInt ≤ x1.toInt ∧ x1.toInt ≤ (4 : Int64).toInt) ∨ (x4.toInt = 0 ∧ (x1.toInt < (0 : Int64).toInt ∨ (4 : Int64).toInt < x1.toInt)) := hw
  obtain ⟨hP, hD⟩ : PD D A [] H := hPD
  refine lv_if_eq (tgt := 40) hx hb dX12_isDot_9 (by decide) (fun c7 => ?_) (fun c7 => ?_)
  · have c7 := ci_eq c7
    refine lv_iconst (v := 0) hx hb dX12_isDot_40 (by decide) ?_
    have hpo : ((0 : Int32).toInt = 1 ∧ 0 ≤ p1.toInt ∧ p1.toInt ≤ 4 ∧ 0 ≤ p2.toInt ∧ p2.toInt ≤ 7 ∧ 0 ≤ p3.toInt ∧ p3.toInt ≤ 9999) ∨ ((0 : Int32).toInt = 0 ∧ (p1.toInt < 0 ∨ 4 < p1.toInt ∨ p2.toInt < 0 ∨ 7 < p2.toInt ∨ p3.toInt < 0 ∨ 9999 < p3.toInt)) := (by omega)
    exact ret _ _ _ _ 0 () dX12_isDot_41 (by omega) hpo hP hD hS
  have c7 := ci_ne c7
  refine lv_iload_n hx hb dX12_isDot_12 rfl (lv_at hl 1 rfl) ?_
  refine lv_i2l hx hb dX12_isDot_13 rfl ?_
  refine lv_topl (fun x8 e9 => ?_)
  have h10 : x8.toInt = p2.toInt := cl_i2l e9
  refine lv_lconst (v := (0 : Int64)) hx hb dX12_isDot_14 (by decide) ?_
  refine lv_ldc2 (v := (7 : Int64)) hx hb hown w1 dX12_isDot_15 ?_
  refine kcm_i hA hAB hP hD hS [] rfl (fun _ => rfl) (fun hPc hDc => va_runS (As := [.long x8, .long (0 : Int64), .long (7 : Int64)]) (rest := []) ⟨hx, hb, hml, hown, hts⟩ (k_X12_within l D κ β H.size x8 (0 : Int64) (7 : Int64)) (va_cwS 3 hts gX12_isDot_X12_within rfl rfl rfl (by decide +kernel) ⟨Nat.le_of_ble_eq_true rfl, Nat.le_of_ble_eq_true rfl⟩) (pk_S hK hS hAB hPc hDc) rfl rfl hl.1 rfl (lv_room (Nat.le_of_ble_eq_true rfl)) dX12_isDot_18 ⟨Nat.le_of_ble_eq_true rfl, Nat.le_of_ble_eq_true rfl⟩) (fun x11 u12 H locs hw hPD hS => ?_)
  have h13 : (x11.toInt = 1 ∧ (0 : Int64).toInt ≤ x8.toInt ∧ x8.toInt ≤ (7 : Int64).toInt) ∨ (x11.toInt = 0 ∧ (x8.toInt < (0 : Int64).toInt ∨ (7 : Int64).toInt < x8.toInt)) := hw
  obtain ⟨hP, hD⟩ : PD D A [] H := hPD
  refine lv_if_eq (tgt := 40) hx hb dX12_isDot_21 (by decide) (fun c14 => ?_) (fun c14 => ?_)
  · have c14 := ci_eq c14
    refine lv_iconst (v := 0) hx hb dX12_isDot_40 (by decide) ?_
    have hpo : ((0 : Int32).toInt = 1 ∧ 0 ≤ p1.toInt ∧ p1.toInt ≤ 4 ∧ 0 ≤ p2.toInt ∧ p2.toInt ≤ 7 ∧ 0 ≤ p3.toInt ∧ p3.toInt ≤ 9999) ∨ ((0 : Int32).toInt = 0 ∧ (p1.toInt < 0 ∨ 4 < p1.toInt ∨ p2.toInt < 0 ∨ 7 < p2.toInt ∨ p3.toInt < 0 ∨ 9999 < p3.toInt)) := (by omega)
    exact ret _ _ _ _ 0 () dX12_isDot_41 (by omega) hpo hP hD hS
  have c14 := ci_ne c14
  refine lv_iload_n hx hb dX12_isDot_24 rfl (lv_at hl 2 rfl) ?_
  refine lv_i2l hx hb dX12_isDot_25 rfl ?_
  refine lv_topl (fun x15 e16 => ?_)
  have h17 : x15.toInt = p3.toInt := cl_i2l e16
  refine lv_lconst (v := (0 : Int64)) hx hb dX12_isDot_26 (by decide) ?_
  refine lv_ldc2 (v := (9999 : Int64)) hx hb hown w2 dX12_isDot_27 ?_
  refine kcm_i hA hAB hP hD hS [] rfl (fun _ => rfl) (fun hPc hDc => va_runS (As := [.long x15, .long (0 : Int64), .long (9999 : Int64)]) (rest := []) ⟨hx, hb, hml, hown, hts⟩ (k_X12_within l D κ β H.size x15 (0 : Int64) (9999 : Int64)) (va_cwS 3 hts gX12_isDot_X12_within rfl rfl rfl (by decide +kernel) ⟨Nat.le_of_ble_eq_true rfl, Nat.le_of_ble_eq_true rfl⟩) (pk_S hK hS hAB hPc hDc) rfl rfl hl.1 rfl (lv_room (Nat.le_of_ble_eq_true rfl)) dX12_isDot_30 ⟨Nat.le_of_ble_eq_true rfl, Nat.le_of_ble_eq_true rfl⟩) (fun x18 u19 H locs hw hPD hS => ?_)
  have h20 : (x18.toInt = 1 ∧ (0 : Int64).toInt ≤ x15.toInt ∧ x15.toInt ≤ (9999 : Int64).toInt) ∨ (x18.toInt = 0 ∧ (x15.toInt < (0 : Int64).toInt ∨ (9999 : Int64).toInt < x15.toInt)) := hw
  obtain ⟨hP, hD⟩ : PD D A [] H := hPD
  refine lv_if_eq (tgt := 40) hx hb dX12_isDot_33 (by decide) (fun c21 => ?_) (fun c21 => ?_)
  · have c21 := ci_eq c21
    refine lv_iconst (v := 0) hx hb dX12_isDot_40 (by decide) ?_
    have hpo : ((0 : Int32).toInt = 1 ∧ 0 ≤ p1.toInt ∧ p1.toInt ≤ 4 ∧ 0 ≤ p2.toInt ∧ p2.toInt ≤ 7 ∧ 0 ≤ p3.toInt ∧ p3.toInt ≤ 9999) ∨ ((0 : Int32).toInt = 0 ∧ (p1.toInt < 0 ∨ 4 < p1.toInt ∨ p2.toInt < 0 ∨ 7 < p2.toInt ∨ p3.toInt < 0 ∨ 9999 < p3.toInt)) := (by omega)
    exact ret _ _ _ _ 0 () dX12_isDot_41 (by omega) hpo hP hD hS
  have c21 := ci_ne c21
  refine lv_iconst (v := 1) hx hb dX12_isDot_36 (by decide) ?_
  refine lv_goto (tgt := 41) hx hb dX12_isDot_37 (by decide) ?_
  have hpo : ((1 : Int32).toInt = 1 ∧ 0 ≤ p1.toInt ∧ p1.toInt ≤ 4 ∧ 0 ≤ p2.toInt ∧ p2.toInt ≤ 7 ∧ 0 ≤ p3.toInt ∧ p3.toInt ≤ 9999) ∨ ((1 : Int32).toInt = 0 ∧ (p1.toInt < 0 ∨ 4 < p1.toInt ∨ p2.toInt < 0 ∨ 7 < p2.toInt ∨ p3.toInt < 0 ∨ 9999 < p3.toInt)) := (by omega)
  exact ret _ _ _ _ 1 () dX12_isDot_41 (by omega) hpo hP hD hS
set_option maxHeartbeats 4000000 in
set_option maxRecDepth 100000 in
theorem k_X12_isShelf (l : Launch) (D : va_G) (κ : Nat → ClassId) (β : Nat) (sz : Nat) (p1 : Int32) : Met l yX12_isShelf wsX12_isShelf ({ frames := 1, cells := 0, slots := 0, locals := 25 } : Room) (PcK D κ β [] sz [.int p1]) (QiK D (fun (r : Int32) (u : Unit) => (r.toInt = 1 ∧ 0 ≤ p1.toInt ∧ p1.toInt ≤ 5) ∨ (r.toInt = 0 ∧ (p1.toInt < 0 ∨ 5 < p1.toInt))) (fun (u : Unit) => []) [] sz) 0 0 (va_A [] sz) := by
  refine ofK_z (cc := cX12_isShelf) (maxL := 1) (own := RX12) (by decide) rfl rfl (Nat.le_of_ble_eq_true rfl) ?_
  intro p e s m args below meth c Q A ls hsz hx hb hml hts hown hK hA hAB hP hD hl ret
  have hS : va_S A s.heap s.heap [] := va_S.rf
  have hl : lv_has ls 1 [(0, .int p1)] := hl
  have w0 := hts (.constantLong RX12 195 (5)) (List.mem_of_getElem? (i := 1) rfl)
  have l0 : (0 : Int64).toInt = 0 := by decide
  have l1 : (5 : Int64).toInt = 5 := by decide
  refine lv_iload_n hx hb dX12_isShelf_0 rfl (lv_at hl 0 rfl) ?_
  refine lv_i2l hx hb dX12_isShelf_1 rfl ?_
  refine lv_topl (fun x1 e2 => ?_)
  have h3 : x1.toInt = p1.toInt := cl_i2l e2
  refine lv_lconst (v := (0 : Int64)) hx hb dX12_isShelf_2 (by decide) ?_
  refine lv_ldc2 (v := (5 : Int64)) hx hb hown w0 dX12_isShelf_3 ?_
  refine kcm_i hA hAB hP hD hS [] rfl (fun _ => rfl) (fun hPc hDc => va_runS (As := [.long x1, .long (0 : Int64), .long (5 : Int64)]) (rest := []) ⟨hx, hb, hml, hown, hts⟩ (k_X12_within l D κ β s.heap.size x1 (0 : Int64) (5 : Int64)) (va_cwS 3 hts gX12_isShelf_X12_within rfl rfl rfl (by decide +kernel) ⟨Nat.le_of_ble_eq_true rfl, Nat.le_of_ble_eq_true rfl⟩) (pk_S hK hS hAB hPc hDc) rfl rfl hl.1 rfl (lv_room (Nat.le_of_ble_eq_true rfl)) dX12_isShelf_6 ⟨Nat.le_of_ble_eq_true rfl, Nat.le_of_ble_eq_true rfl⟩) (fun x4 u5 H locs hw hPD hS => ?_)
  have h6 : (x4.toInt = 1 ∧ (0 : Int64).toInt ≤ x1.toInt ∧ x1.toInt ≤ (5 : Int64).toInt) ∨ (x4.toInt = 0 ∧ (x1.toInt < (0 : Int64).toInt ∨ (5 : Int64).toInt < x1.toInt)) := hw
  obtain ⟨hP, hD⟩ : PD D A [] H := hPD
  have hpo : (x4.toInt = 1 ∧ 0 ≤ p1.toInt ∧ p1.toInt ≤ 5) ∨ (x4.toInt = 0 ∧ (p1.toInt < 0 ∨ 5 < p1.toInt)) := (by omega)
  exact ret _ _ _ _ x4 () dX12_isShelf_9 (by omega) hpo hP hD hS
set_option maxHeartbeats 4000000 in
set_option maxRecDepth 100000 in
theorem k_X12_isMap (l : Launch) (D : va_G) (κ : Nat → ClassId) (β : Nat) (a12 : Nat) (r12 : Nat → Nat) (v12_keptMany : Int32) (v12_done : Int32) (v12_sheets : Int32) (v12_holes : Int32) (v12_worms : Int32) (v12_laidMany : Int32) (v12_wanted : Int32) (v12_orderMany : Int32) (v12_firstOrder : Int32) (v12_lines : Int32) (v12_marks : Int32) (v12_dots : Int32) (v12_madeIn : Int32) (v12_bound : Int32) (v12_places : Int32) (v12_maps : Int32) (v12_tapeMany : Int32) (v12_stories : Int32) (v12_base : Int32) (v12_at : Int32) (v12_ends : Int32) (v12_fault : Int32) (v12_opened : Int32) (v12_bodies : Int32) (v12_ran : Int32) (v12_ownKind : Int32) (v12_ownNumber : Int32) (sz : Nat) (p1 : Int32) (i1 : Rg 0 40 v12_keptMany) (i2 : Rg 0 40 v12_done) (i3 : Rg 0 8 v12_sheets) (i4 : Rg 0 40 v12_holes) (i5 : Rg 0 40 v12_worms) (i6 : Rg 0 8 v12_laidMany) (i7 : Rg 0 8 v12_wanted) (i8 : Rg 0 20 v12_lines) (i9 : Rg 0 60 v12_marks) (i10 : Rg 0 40 v12_dots) (i11 : Rg 0 20 v12_places) (i12 : Rg 0 8 v12_maps) (i13 : Rg 0 120 v12_tapeMany) (i14 : Rg 0 6 v12_stories) (i15 : Rg 0 50 v12_bodies) (i16 : Rg 0 1000 v12_ran) (i17 : v12_done.toInt ≤ v12_keptMany.toInt) : Met l yX12_isMap wsX12_isMap ({ frames := 1, cells := 0, slots := 0, locals := 25 } : Room) (PcK D κ β [O12 a12 r12 v12_keptMany v12_done v12_sheets v12_holes v12_worms v12_laidMany v12_wanted v12_orderMany v12_firstOrder v12_lines v12_marks v12_dots v12_madeIn v12_bound v12_places v12_maps v12_tapeMany v12_stories v12_base v12_at v12_ends v12_fault v12_opened v12_bodies v12_ran v12_ownKind v12_ownNumber] sz [.ref a12, .int p1]) (QiK D (fun (r : Int32) (u : Unit) => (r.toInt = 1 ∧ 0 ≤ p1.toInt ∧ p1.toInt < v12_maps.toInt) ∨ (r.toInt = 0 ∧ (p1.toInt < 0 ∨ v12_maps.toInt ≤ p1.toInt))) (fun (u : Unit) => [O12 a12 r12 v12_keptMany v12_done v12_sheets v12_holes v12_worms v12_laidMany v12_wanted v12_orderMany v12_firstOrder v12_lines v12_marks v12_dots v12_madeIn v12_bound v12_places v12_maps v12_tapeMany v12_stories v12_base v12_at v12_ends v12_fault v12_opened v12_bodies v12_ran v12_ownKind v12_ownNumber]) [O12 a12 r12 v12_keptMany v12_done v12_sheets v12_holes v12_worms v12_laidMany v12_wanted v12_orderMany v12_firstOrder v12_lines v12_marks v12_dots v12_madeIn v12_bound v12_places v12_maps v12_tapeMany v12_stories v12_base v12_at v12_ends v12_fault v12_opened v12_bodies v12_ran v12_ownKind v12_ownNumber] sz) 0 0 (va_A [O12 a12 r12 v12_keptMany v12_done v12_sheets v12_holes v12_worms v12_laidMany v12_wanted v12_orderMany v12_firstOrder v12_lines v12_marks v12_dots v12_madeIn v12_bound v12_places v12_maps v12_tapeMany v12_stories v12_base v12_at v12_ends v12_fault v12_opened v12_bodies v12_ran v12_ownKind v12_ownNumber] sz) := by
  refine ofK_z (cc := cX12_isMap) (maxL := 2) (own := RX12) (by decide) rfl rfl (Nat.le_of_ble_eq_true rfl) ?_
  intro p e s m args below meth c Q A ls hsz hx hb hml hts hown hK hA hAB hP hD hl ret
  have hS : va_S A s.heap s.heap [] := va_S.rf
  have hl : lv_has ls 2 [(0, .ref a12), (1, .int p1)] := hl
  have w0 := hts (.fieldLink RX12 277 "OlderSkinModel" "maps" "I") (List.mem_of_getElem? (i := 1) rfl)
  have w1 := (fun w h => List.mem_cons_of_mem _ (List.mem_append_right _ h) : ∀ w ∈ u_ws RX12 TX12 63, w ∈ wsX12_isMap)
  have l0 : (0 : Int64).toInt = 0 := by decide
  have l1 : (1 : Int32).toInt = 1 := by decide
  have i12 : 0 ≤ v12_maps.toInt ∧ v12_maps.toInt ≤ 8 := i12
  refine lv_iload_n hx hb dX12_isMap_0 rfl (lv_at hl 1 rfl) ?_
  refine lv_i2l hx hb dX12_isMap_1 rfl ?_
  refine lv_topl (fun x1 e2 => ?_)
  have h3 : x1.toInt = p1.toInt := cl_i2l e2
  refine lv_lconst (v := (0 : Int64)) hx hb dX12_isMap_2 (by decide) ?_
  refine lv_aload_n hx hb dX12_isMap_3 rfl (lv_at hl 0 rfl) ?_
  refine va_get (D := D) (ci := 12) (v := .int v12_maps) (C := RX12) (T := TX12) (N := 63) hx hb hts w1 hown hK.1 hP 0 rfl rfl 38 (by decide) w0 (fun _ h9 => h9) rfl dX12_isMap_4 ?_
  refine lv_iconst (v := 1) hx hb dX12_isMap_7 (by decide) ?_
  refine lv_isub hx hb dX12_isMap_8 ?_
  refine lv_topi (fun x4 e5 => ?_)
  try have h6 : x4.toInt = v12_maps.toInt - (1 : Int32).toInt := ci_sub e5 (by omega) (by omega)
  refine lv_i2l hx hb dX12_isMap_9 rfl ?_
  refine lv_topl (fun x7 e8 => ?_)
  have h9 : x7.toInt = x4.toInt := cl_i2l e8
  refine kcm_i hA hAB hP hD hS [false] rfl (fun _ => rfl) (fun hPc hDc => va_runS (As := [.long x1, .long (0 : Int64), .long x7]) (rest := []) ⟨hx, hb, hml, hown, hts⟩ (k_X12_within l D κ β s.heap.size x1 (0 : Int64) x7) (va_cwS 3 hts gX12_isMap_X12_within rfl rfl rfl (by decide +kernel) ⟨Nat.le_of_ble_eq_true rfl, Nat.le_of_ble_eq_true rfl⟩) (pk_S hK hS hAB hPc hDc) rfl rfl hl.1 rfl (lv_room (Nat.le_of_ble_eq_true rfl)) dX12_isMap_10 ⟨Nat.le_of_ble_eq_true rfl, Nat.le_of_ble_eq_true rfl⟩) (fun x10 u11 H locs hw hPD hS => ?_)
  have h12 : (x10.toInt = 1 ∧ (0 : Int64).toInt ≤ x1.toInt ∧ x1.toInt ≤ x7.toInt) ∨ (x10.toInt = 0 ∧ (x1.toInt < (0 : Int64).toInt ∨ x7.toInt < x1.toInt)) := hw
  obtain ⟨hP, hD⟩ : PD D A [O12 a12 r12 v12_keptMany v12_done v12_sheets v12_holes v12_worms v12_laidMany v12_wanted v12_orderMany v12_firstOrder v12_lines v12_marks v12_dots v12_madeIn v12_bound v12_places v12_maps v12_tapeMany v12_stories v12_base v12_at v12_ends v12_fault v12_opened v12_bodies v12_ran v12_ownKind v12_ownNumber] H := hPD
  have hpo : (x10.toInt = 1 ∧ 0 ≤ p1.toInt ∧ p1.toInt < v12_maps.toInt) ∨ (x10.toInt = 0 ∧ (p1.toInt < 0 ∨ v12_maps.toInt ≤ p1.toInt)) := (by omega)
  exact ret _ _ _ _ x10 () dX12_isMap_13 (by omega) hpo hP hD hS
set_option maxHeartbeats 4000000 in
set_option maxRecDepth 100000 in
theorem k_X12_isStory (l : Launch) (D : va_G) (κ : Nat → ClassId) (β : Nat) (a12 : Nat) (r12 : Nat → Nat) (v12_keptMany : Int32) (v12_done : Int32) (v12_sheets : Int32) (v12_holes : Int32) (v12_worms : Int32) (v12_laidMany : Int32) (v12_wanted : Int32) (v12_orderMany : Int32) (v12_firstOrder : Int32) (v12_lines : Int32) (v12_marks : Int32) (v12_dots : Int32) (v12_madeIn : Int32) (v12_bound : Int32) (v12_places : Int32) (v12_maps : Int32) (v12_tapeMany : Int32) (v12_stories : Int32) (v12_base : Int32) (v12_at : Int32) (v12_ends : Int32) (v12_fault : Int32) (v12_opened : Int32) (v12_bodies : Int32) (v12_ran : Int32) (v12_ownKind : Int32) (v12_ownNumber : Int32) (sz : Nat) (p1 : Int32) (i1 : Rg 0 40 v12_keptMany) (i2 : Rg 0 40 v12_done) (i3 : Rg 0 8 v12_sheets) (i4 : Rg 0 40 v12_holes) (i5 : Rg 0 40 v12_worms) (i6 : Rg 0 8 v12_laidMany) (i7 : Rg 0 8 v12_wanted) (i8 : Rg 0 20 v12_lines) (i9 : Rg 0 60 v12_marks) (i10 : Rg 0 40 v12_dots) (i11 : Rg 0 20 v12_places) (i12 : Rg 0 8 v12_maps) (i13 : Rg 0 120 v12_tapeMany) (i14 : Rg 0 6 v12_stories) (i15 : Rg 0 50 v12_bodies) (i16 : Rg 0 1000 v12_ran) (i17 : v12_done.toInt ≤ v12_keptMany.toInt) : Met l yX12_isStory wsX12_isStory ({ frames := 1, cells := 0, slots := 0, locals := 25 } : Room) (PcK D κ β [O12 a12 r12 v12_keptMany v12_done v12_sheets v12_holes v12_worms v12_laidMany v12_wanted v12_orderMany v12_firstOrder v12_lines v12_marks v12_dots v12_madeIn v12_bound v12_places v12_maps v12_tapeMany v12_stories v12_base v12_at v12_ends v12_fault v12_opened v12_bodies v12_ran v12_ownKind v12_ownNumber] sz [.ref a12, .int p1]) (QiK D (fun (r : Int32) (u : Unit) => (r.toInt = 1 ∧ 0 ≤ p1.toInt ∧ p1.toInt < v12_stories.toInt) ∨ (r.toInt = 0 ∧ (p1.toInt < 0 ∨ v12_stories.toInt ≤ p1.toInt))) (fun (u : Unit) => [O12 a12 r12 v12_keptMany v12_done v12_sheets v12_holes v12_worms v12_laidMany v12_wanted v12_orderMany v12_firstOrder v12_lines v12_marks v12_dots v12_madeIn v12_bound v12_places v12_maps v12_tapeMany v12_stories v12_base v12_at v12_ends v12_fault v12_opened v12_bodies v12_ran v12_ownKind v12_ownNumber]) [O12 a12 r12 v12_keptMany v12_done v12_sheets v12_holes v12_worms v12_laidMany v12_wanted v12_orderMany v12_firstOrder v12_lines v12_marks v12_dots v12_madeIn v12_bound v12_places v12_maps v12_tapeMany v12_stories v12_base v12_at v12_ends v12_fault v12_opened v12_bodies v12_ran v12_ownKind v12_ownNumber] sz) 0 0 (va_A [O12 a12 r12 v12_keptMany v12_done v12_sheets v12_holes v12_worms v12_laidMany v12_wanted v12_orderMany v12_firstOrder v12_lines v12_marks v12_dots v12_madeIn v12_bound v12_places v12_maps v12_tapeMany v12_stories v12_base v12_at v12_ends v12_fault v12_opened v12_bodies v12_ran v12_ownKind v12_ownNumber] sz) := by
  refine ofK_z (cc := cX12_isStory) (maxL := 2) (own := RX12) (by decide) rfl rfl (Nat.le_of_ble_eq_true rfl) ?_
  intro p e s m args below meth c Q A ls hsz hx hb hml hts hown hK hA hAB hP hD hl ret
  have hS : va_S A s.heap s.heap [] := va_S.rf
  have hl : lv_has ls 2 [(0, .ref a12), (1, .int p1)] := hl
  have w0 := hts (.fieldLink RX12 342 "OlderSkinModel" "stories" "I") (List.mem_of_getElem? (i := 1) rfl)
  have w1 := (fun w h => List.mem_cons_of_mem _ (List.mem_append_right _ h) : ∀ w ∈ u_ws RX12 TX12 63, w ∈ wsX12_isStory)
  have l0 : (0 : Int64).toInt = 0 := by decide
  have l1 : (1 : Int32).toInt = 1 := by decide
  have i14 : 0 ≤ v12_stories.toInt ∧ v12_stories.toInt ≤ 6 := i14
  refine lv_iload_n hx hb dX12_isStory_0 rfl (lv_at hl 1 rfl) ?_
  refine lv_i2l hx hb dX12_isStory_1 rfl ?_
  refine lv_topl (fun x1 e2 => ?_)
  have h3 : x1.toInt = p1.toInt := cl_i2l e2
  refine lv_lconst (v := (0 : Int64)) hx hb dX12_isStory_2 (by decide) ?_
  refine lv_aload_n hx hb dX12_isStory_3 rfl (lv_at hl 0 rfl) ?_
  refine va_get (D := D) (ci := 12) (v := .int v12_stories) (C := RX12) (T := TX12) (N := 63) hx hb hts w1 hown hK.1 hP 0 rfl rfl 43 (by decide) w0 (fun _ h9 => h9) rfl dX12_isStory_4 ?_
  refine lv_iconst (v := 1) hx hb dX12_isStory_7 (by decide) ?_
  refine lv_isub hx hb dX12_isStory_8 ?_
  refine lv_topi (fun x4 e5 => ?_)
  try have h6 : x4.toInt = v12_stories.toInt - (1 : Int32).toInt := ci_sub e5 (by omega) (by omega)
  refine lv_i2l hx hb dX12_isStory_9 rfl ?_
  refine lv_topl (fun x7 e8 => ?_)
  have h9 : x7.toInt = x4.toInt := cl_i2l e8
  refine kcm_i hA hAB hP hD hS [false] rfl (fun _ => rfl) (fun hPc hDc => va_runS (As := [.long x1, .long (0 : Int64), .long x7]) (rest := []) ⟨hx, hb, hml, hown, hts⟩ (k_X12_within l D κ β s.heap.size x1 (0 : Int64) x7) (va_cwS 3 hts gX12_isStory_X12_within rfl rfl rfl (by decide +kernel) ⟨Nat.le_of_ble_eq_true rfl, Nat.le_of_ble_eq_true rfl⟩) (pk_S hK hS hAB hPc hDc) rfl rfl hl.1 rfl (lv_room (Nat.le_of_ble_eq_true rfl)) dX12_isStory_10 ⟨Nat.le_of_ble_eq_true rfl, Nat.le_of_ble_eq_true rfl⟩) (fun x10 u11 H locs hw hPD hS => ?_)
  have h12 : (x10.toInt = 1 ∧ (0 : Int64).toInt ≤ x1.toInt ∧ x1.toInt ≤ x7.toInt) ∨ (x10.toInt = 0 ∧ (x1.toInt < (0 : Int64).toInt ∨ x7.toInt < x1.toInt)) := hw
  obtain ⟨hP, hD⟩ : PD D A [O12 a12 r12 v12_keptMany v12_done v12_sheets v12_holes v12_worms v12_laidMany v12_wanted v12_orderMany v12_firstOrder v12_lines v12_marks v12_dots v12_madeIn v12_bound v12_places v12_maps v12_tapeMany v12_stories v12_base v12_at v12_ends v12_fault v12_opened v12_bodies v12_ran v12_ownKind v12_ownNumber] H := hPD
  have hpo : (x10.toInt = 1 ∧ 0 ≤ p1.toInt ∧ p1.toInt < v12_stories.toInt) ∨ (x10.toInt = 0 ∧ (p1.toInt < 0 ∨ v12_stories.toInt ≤ p1.toInt)) := (by omega)
  exact ret _ _ _ _ x10 () dX12_isStory_13 (by omega) hpo hP hD hS
set_option maxHeartbeats 4000000 in
set_option maxRecDepth 100000 in
theorem k_X12_isBody (l : Launch) (D : va_G) (κ : Nat → ClassId) (β : Nat) (a12 : Nat) (r12 : Nat → Nat) (v12_keptMany : Int32) (v12_done : Int32) (v12_sheets : Int32) (v12_holes : Int32) (v12_worms : Int32) (v12_laidMany : Int32) (v12_wanted : Int32) (v12_orderMany : Int32) (v12_firstOrder : Int32) (v12_lines : Int32) (v12_marks : Int32) (v12_dots : Int32) (v12_madeIn : Int32) (v12_bound : Int32) (v12_places : Int32) (v12_maps : Int32) (v12_tapeMany : Int32) (v12_stories : Int32) (v12_base : Int32) (v12_at : Int32) (v12_ends : Int32) (v12_fault : Int32) (v12_opened : Int32) (v12_bodies : Int32) (v12_ran : Int32) (v12_ownKind : Int32) (v12_ownNumber : Int32) (sz : Nat) (p1 : Int32) (i1 : Rg 0 40 v12_keptMany) (i2 : Rg 0 40 v12_done) (i3 : Rg 0 8 v12_sheets) (i4 : Rg 0 40 v12_holes) (i5 : Rg 0 40 v12_worms) (i6 : Rg 0 8 v12_laidMany) (i7 : Rg 0 8 v12_wanted) (i8 : Rg 0 20 v12_lines) (i9 : Rg 0 60 v12_marks) (i10 : Rg 0 40 v12_dots) (i11 : Rg 0 20 v12_places) (i12 : Rg 0 8 v12_maps) (i13 : Rg 0 120 v12_tapeMany) (i14 : Rg 0 6 v12_stories) (i15 : Rg 0 50 v12_bodies) (i16 : Rg 0 1000 v12_ran) (i17 : v12_done.toInt ≤ v12_keptMany.toInt) : Met l yX12_isBody wsX12_isBody ({ frames := 1, cells := 0, slots := 0, locals := 25 } : Room) (PcK D κ β [O12 a12 r12 v12_keptMany v12_done v12_sheets v12_holes v12_worms v12_laidMany v12_wanted v12_orderMany v12_firstOrder v12_lines v12_marks v12_dots v12_madeIn v12_bound v12_places v12_maps v12_tapeMany v12_stories v12_base v12_at v12_ends v12_fault v12_opened v12_bodies v12_ran v12_ownKind v12_ownNumber] sz [.ref a12, .int p1]) (QiK D (fun (r : Int32) (u : Unit) => (r.toInt = 1 ∧ 0 ≤ p1.toInt ∧ p1.toInt < v12_bodies.toInt) ∨ (r.toInt = 0 ∧ (p1.toInt < 0 ∨ v12_bodies.toInt ≤ p1.toInt))) (fun (u : Unit) => [O12 a12 r12 v12_keptMany v12_done v12_sheets v12_holes v12_worms v12_laidMany v12_wanted v12_orderMany v12_firstOrder v12_lines v12_marks v12_dots v12_madeIn v12_bound v12_places v12_maps v12_tapeMany v12_stories v12_base v12_at v12_ends v12_fault v12_opened v12_bodies v12_ran v12_ownKind v12_ownNumber]) [O12 a12 r12 v12_keptMany v12_done v12_sheets v12_holes v12_worms v12_laidMany v12_wanted v12_orderMany v12_firstOrder v12_lines v12_marks v12_dots v12_madeIn v12_bound v12_places v12_maps v12_tapeMany v12_stories v12_base v12_at v12_ends v12_fault v12_opened v12_bodies v12_ran v12_ownKind v12_ownNumber] sz) 0 0 (va_A [O12 a12 r12 v12_keptMany v12_done v12_sheets v12_holes v12_worms v12_laidMany v12_wanted v12_orderMany v12_firstOrder v12_lines v12_marks v12_dots v12_madeIn v12_bound v12_places v12_maps v12_tapeMany v12_stories v12_base v12_at v12_ends v12_fault v12_opened v12_bodies v12_ran v12_ownKind v12_ownNumber] sz) := by
  refine ofK_z (cc := cX12_isBody) (maxL := 2) (own := RX12) (by decide) rfl rfl (Nat.le_of_ble_eq_true rfl) ?_
  intro p e s m args below meth c Q A ls hsz hx hb hml hts hown hK hA hAB hP hD hl ret
  have hS : va_S A s.heap s.heap [] := va_S.rf
  have hl : lv_has ls 2 [(0, .ref a12), (1, .int p1)] := hl
  have w0 := hts (.fieldLink RX12 379 "OlderSkinModel" "bodies" "I") (List.mem_of_getElem? (i := 1) rfl)
  have w1 := (fun w h => List.mem_cons_of_mem _ (List.mem_append_right _ h) : ∀ w ∈ u_ws RX12 TX12 63, w ∈ wsX12_isBody)
  have l0 : (0 : Int64).toInt = 0 := by decide
  have l1 : (1 : Int32).toInt = 1 := by decide
  have i15 : 0 ≤ v12_bodies.toInt ∧ v12_bodies.toInt ≤ 50 := i15
  refine lv_iload_n hx hb dX12_isBody_0 rfl (lv_at hl 1 rfl) ?_
  refine lv_i2l hx hb dX12_isBody_1 rfl ?_
  refine lv_topl (fun x1 e2 => ?_)
  have h3 : x1.toInt = p1.toInt := cl_i2l e2
  refine lv_lconst (v := (0 : Int64)) hx hb dX12_isBody_2 (by decide) ?_
  refine lv_aload_n hx hb dX12_isBody_3 rfl (lv_at hl 0 rfl) ?_
  refine va_get (D := D) (ci := 12) (v := .int v12_bodies) (C := RX12) (T := TX12) (N := 63) hx hb hts w1 hown hK.1 hP 0 rfl rfl 53 (by decide) w0 (fun _ h9 => h9) rfl dX12_isBody_4 ?_
  refine lv_iconst (v := 1) hx hb dX12_isBody_7 (by decide) ?_
  refine lv_isub hx hb dX12_isBody_8 ?_
  refine lv_topi (fun x4 e5 => ?_)
  try have h6 : x4.toInt = v12_bodies.toInt - (1 : Int32).toInt := ci_sub e5 (by omega) (by omega)
  refine lv_i2l hx hb dX12_isBody_9 rfl ?_
  refine lv_topl (fun x7 e8 => ?_)
  have h9 : x7.toInt = x4.toInt := cl_i2l e8
  refine kcm_i hA hAB hP hD hS [false] rfl (fun _ => rfl) (fun hPc hDc => va_runS (As := [.long x1, .long (0 : Int64), .long x7]) (rest := []) ⟨hx, hb, hml, hown, hts⟩ (k_X12_within l D κ β s.heap.size x1 (0 : Int64) x7) (va_cwS 3 hts gX12_isBody_X12_within rfl rfl rfl (by decide +kernel) ⟨Nat.le_of_ble_eq_true rfl, Nat.le_of_ble_eq_true rfl⟩) (pk_S hK hS hAB hPc hDc) rfl rfl hl.1 rfl (lv_room (Nat.le_of_ble_eq_true rfl)) dX12_isBody_10 ⟨Nat.le_of_ble_eq_true rfl, Nat.le_of_ble_eq_true rfl⟩) (fun x10 u11 H locs hw hPD hS => ?_)
  have h12 : (x10.toInt = 1 ∧ (0 : Int64).toInt ≤ x1.toInt ∧ x1.toInt ≤ x7.toInt) ∨ (x10.toInt = 0 ∧ (x1.toInt < (0 : Int64).toInt ∨ x7.toInt < x1.toInt)) := hw
  obtain ⟨hP, hD⟩ : PD D A [O12 a12 r12 v12_keptMany v12_done v12_sheets v12_holes v12_worms v12_laidMany v12_wanted v12_orderMany v12_firstOrder v12_lines v12_marks v12_dots v12_madeIn v12_bound v12_places v12_maps v12_tapeMany v12_stories v12_base v12_at v12_ends v12_fault v12_opened v12_bodies v12_ran v12_ownKind v12_ownNumber] H := hPD
  have hpo : (x10.toInt = 1 ∧ 0 ≤ p1.toInt ∧ p1.toInt < v12_bodies.toInt) ∨ (x10.toInt = 0 ∧ (p1.toInt < 0 ∨ v12_bodies.toInt ≤ p1.toInt)) := (by omega)
  exact ret _ _ _ _ x10 () dX12_isBody_13 (by omega) hpo hP hD hS
set_option maxHeartbeats 4000000 in
set_option maxRecDepth 100000 in
theorem k_X12_sheet (l : Launch) (D : va_G) (κ : Nat → ClassId) (β : Nat) (a12 : Nat) (r12 : Nat → Nat) (v12_keptMany : Int32) (v12_done : Int32) (v12_sheets : Int32) (v12_holes : Int32) (v12_worms : Int32) (v12_laidMany : Int32) (v12_wanted : Int32) (v12_orderMany : Int32) (v12_firstOrder : Int32) (v12_lines : Int32) (v12_marks : Int32) (v12_dots : Int32) (v12_madeIn : Int32) (v12_bound : Int32) (v12_places : Int32) (v12_maps : Int32) (v12_tapeMany : Int32) (v12_stories : Int32) (v12_base : Int32) (v12_at : Int32) (v12_ends : Int32) (v12_fault : Int32) (v12_opened : Int32) (v12_bodies : Int32) (v12_ran : Int32) (v12_ownKind : Int32) (v12_ownNumber : Int32) (f12_may : Nat → Int32) (sz : Nat) (p1 : Int32) (i1 : Rg 0 40 v12_keptMany) (i2 : Rg 0 40 v12_done) (i3 : Rg 0 8 v12_sheets) (i4 : Rg 0 40 v12_holes) (i5 : Rg 0 40 v12_worms) (i6 : Rg 0 8 v12_laidMany) (i7 : Rg 0 8 v12_wanted) (i8 : Rg 0 20 v12_lines) (i9 : Rg 0 60 v12_marks) (i10 : Rg 0 40 v12_dots) (i11 : Rg 0 20 v12_places) (i12 : Rg 0 8 v12_maps) (i13 : Rg 0 120 v12_tapeMany) (i14 : Rg 0 6 v12_stories) (i15 : Rg 0 50 v12_bodies) (i16 : Rg 0 1000 v12_ran) (i17 : v12_done.toInt ≤ v12_keptMany.toInt) : Met l yX12_sheet wsX12_sheet ({ frames := 2, cells := 0, slots := 0, locals := 45 } : Room) (PcK D κ β [O12 a12 r12 v12_keptMany v12_done v12_sheets v12_holes v12_worms v12_laidMany v12_wanted v12_orderMany v12_firstOrder v12_lines v12_marks v12_dots v12_madeIn v12_bound v12_places v12_maps v12_tapeMany v12_stories v12_base v12_at v12_ends v12_fault v12_opened v12_bodies v12_ran v12_ownKind v12_ownNumber, (cI κ (r12 0) 55 f12_may)] sz [.ref a12, .int p1]) (QiK D (fun (r : Int32) (u : Int32 × (Nat → Int32)) => (0 ≤ u.1.toInt ∧ u.1.toInt ≤ 8) ∧ ((¬ (0 ≤ p1.toInt ∧ p1.toInt ≤ 2000) ∧ r.toInt = -1 ∧ u.1.toInt = v12_sheets.toInt) ∨ ((0 ≤ p1.toInt ∧ p1.toInt ≤ 2000) ∧ v12_sheets.toInt = 8 ∧ r.toInt = -3 ∧ u.1.toInt = v12_sheets.toInt) ∨ ((0 ≤ p1.toInt ∧ p1.toInt ≤ 2000) ∧ v12_sheets.toInt < 8 ∧ r.toInt = v12_sheets.toInt ∧ u.1.toInt = v12_sheets.toInt + 1))) (fun (u : Int32 × (Nat → Int32)) => [O12 a12 r12 v12_keptMany v12_done u.1 v12_holes v12_worms v12_laidMany v12_wanted v12_orderMany v12_firstOrder v12_lines v12_marks v12_dots v12_madeIn v12_bound v12_places v12_maps v12_tapeMany v12_stories v12_base v12_at v12_ends v12_fault v12_opened v12_bodies v12_ran v12_ownKind v12_ownNumber, (cI κ (r12 0) 55 u.2)]) [O12 a12 r12 v12_keptMany v12_done v12_sheets v12_holes v12_worms v12_laidMany v12_wanted v12_orderMany v12_firstOrder v12_lines v12_marks v12_dots v12_madeIn v12_bound v12_places v12_maps v12_tapeMany v12_stories v12_base v12_at v12_ends v12_fault v12_opened v12_bodies v12_ran v12_ownKind v12_ownNumber, (cI κ (r12 0) 55 f12_may)] sz) 0 0 (va_A [O12 a12 r12 v12_keptMany v12_done v12_sheets v12_holes v12_worms v12_laidMany v12_wanted v12_orderMany v12_firstOrder v12_lines v12_marks v12_dots v12_madeIn v12_bound v12_places v12_maps v12_tapeMany v12_stories v12_base v12_at v12_ends v12_fault v12_opened v12_bodies v12_ran v12_ownKind v12_ownNumber, (cI κ (r12 0) 55 f12_may)] sz) := by
  refine ofK_i (cc := cX12_sheet) (maxL := 2) (own := RX12) (by decide) rfl rfl (Nat.le_of_ble_eq_true rfl) ?_
  intro p e s m args below meth c Q A ls hsz hx hb hml hts hown hK hA hAB hP hD hl ret
  have hS : va_S A s.heap s.heap [] := va_S.rf
  have hl : lv_has ls 2 [(0, .ref a12), (1, .int p1)] := hl
  have w0 := hts (.fieldLink RX12 133 "OlderSkinModel" "sheets" "I") (List.mem_of_getElem? (i := 1) rfl)
  have w1 := (fun w h => List.mem_cons_of_mem _ (List.mem_append_right _ h) : ∀ w ∈ u_ws RX12 TX12 63, w ∈ wsX12_sheet)
  have w2 := hts (.fieldLink RX12 9 "OlderSkinModel" "may" "[I") (List.mem_of_getElem? (i := 2) rfl)
  have l0 : (0 : Int32).toInt = 0 := by decide
  have l1 : (8 : Int32).toInt = 8 := by decide
  have l2 : (47 : Int32).toInt = 47 := by decide
  have l3 : (1 : Int32).toInt = 1 := by decide
  have l4 : ((-3) : Int32).toInt = -3 := by decide
  have l5 : ((-1) : Int32).toInt = -1 := by decide
  have i3 : 0 ≤ v12_sheets.toInt ∧ v12_sheets.toInt ≤ 8 := i3
  refine lv_iload_n hx hb dX12_sheet_0 rfl (lv_at hl 1 rfl) ?_
  refine kcm_i hA hAB hP hD hS [false, false] rfl (fun _ => rfl) (fun hPc hDc => va_runS (As := [.int p1]) (rest := []) ⟨hx, hb, hml, hown, hts⟩ (k_X12_isYear l D κ β s.heap.size p1) (va_cwS 1 hts gX12_sheet_X12_isYear rfl rfl rfl (by decide +kernel) ⟨Nat.le_of_ble_eq_true rfl, Nat.le_of_ble_eq_true rfl⟩) (pk_S hK hS hAB hPc hDc) rfl rfl hl.1 rfl (lv_room (Nat.le_of_ble_eq_true rfl)) dX12_sheet_1 ⟨Nat.le_of_ble_eq_true rfl, Nat.le_of_ble_eq_true rfl⟩) (fun x1 u2 H locs hw hPD hS => ?_)
  have h3 : (x1.toInt = 1 ∧ 0 ≤ p1.toInt ∧ p1.toInt ≤ 2000) ∨ (x1.toInt = 0 ∧ (p1.toInt < 0 ∨ 2000 < p1.toInt)) := hw
  obtain ⟨hP, hD⟩ : PD D A [O12 a12 r12 v12_keptMany v12_done v12_sheets v12_holes v12_worms v12_laidMany v12_wanted v12_orderMany v12_firstOrder v12_lines v12_marks v12_dots v12_madeIn v12_bound v12_places v12_maps v12_tapeMany v12_stories v12_base v12_at v12_ends v12_fault v12_opened v12_bodies v12_ran v12_ownKind v12_ownNumber, (cI κ (r12 0) 55 f12_may)] H := hPD
  refine lv_if_ne (tgt := 9) hx hb dX12_sheet_4 (by decide) (fun c4 => ?_) (fun c4 => ?_)
  · have c4 := ci_ne c4
    refine lv_aload_n hx hb dX12_sheet_9 rfl (lv_at hl 0 rfl) ?_
    refine va_get (D := D) (ci := 12) (v := .int v12_sheets) (C := RX12) (T := TX12) (N := 63) hx hb hts w1 hown hK.1 hP 0 rfl rfl 6 (by decide) w0 (fun _ h9 => h9) rfl dX12_sheet_10 ?_
    refine lv_bipush (v := 8) hx hb dX12_sheet_13 (by decide) ?_
    refine lv_icmp_ne (tgt := 21) hx hb dX12_sheet_15 (by decide) (fun c5 => ?_) (fun c5 => ?_)
    · have c5 := ci_ne c5
      refine lv_aload_n hx hb dX12_sheet_21 rfl (lv_at hl 0 rfl) ?_
      refine va_get (D := D) (ci := 12) (v := .ref (r12 0)) (C := RX12) (T := TX12) (N := 63) hx hb hts w1 hown hK.1 hP 0 rfl rfl 0 (by decide) w2 (fun _ h9 => h9) rfl dX12_sheet_22 ?_
      refine lv_bipush (v := 47) hx hb dX12_sheet_25 (by decide) ?_
      refine lv_aload_n hx hb dX12_sheet_27 rfl (lv_at hl 0 rfl) ?_
      refine va_get (D := D) (ci := 12) (v := .int v12_sheets) (C := RX12) (T := TX12) (N := 63) hx hb hts w1 hown hK.1 hP 0 rfl rfl 6 (by decide) w0 (fun _ h9 => h9) rfl dX12_sheet_28 ?_
      refine lv_iadd hx hb dX12_sheet_31 ?_
      refine lv_topi (fun x6 e7 => ?_)
      try have h8 : x6.toInt = (47 : Int32).toInt + v12_sheets.toInt := ci_add e7 (by omega) (by omega)
      refine lv_iload_n hx hb dX12_sheet_32 rfl (lv_at hl 1 rfl) ?_
      refine va_iast hx hb hK.1 hP hD hS 1 1 rfl rfl (i := x6) (ix (by omega) (by omega)) dX12_sheet_33 (fun H locs hP hD hS => ?_)
      obtain ⟨g9, e10⟩ : ∃ y : Nat → Int32, y = upd f12_may x6.toNatClampNeg p1 := ⟨_, rfl⟩
      rw [← e10] at hP hD
      obtain ⟨hP, hD⟩ : PD D A [O12 a12 r12 v12_keptMany v12_done v12_sheets v12_holes v12_worms v12_laidMany v12_wanted v12_orderMany v12_firstOrder v12_lines v12_marks v12_dots v12_madeIn v12_bound v12_places v12_maps v12_tapeMany v12_stories v12_base v12_at v12_ends v12_fault v12_opened v12_bodies v12_ran v12_ownKind v12_ownNumber, (cI κ (r12 0) 55 g9)] H := ⟨hP, hD⟩
      refine lv_aload_n hx hb dX12_sheet_34 rfl (lv_at hl 0 rfl) ?_
      refine lv_dup hx hb dX12_sheet_35 rfl ?_
      refine va_get (D := D) (ci := 12) (v := .int v12_sheets) (C := RX12) (T := TX12) (N := 63) hx hb hts w1 hown hK.1 hP 0 rfl rfl 6 (by decide) w0 (fun _ h9 => h9) rfl dX12_sheet_36 ?_
      refine lv_iconst (v := 1) hx hb dX12_sheet_39 (by decide) ?_
      refine lv_iadd hx hb dX12_sheet_40 ?_
      refine lv_topi (fun x11 e12 => ?_)
      try have h13 : x11.toInt = v12_sheets.toInt + (1 : Int32).toInt := ci_add e12 (by omega) (by omega)
      refine va_put (D := D) (ci := 12) (v := .int x11) (ty := .int) (C := RX12) (T := TX12) (N := 63) hx hb hts w1 tyX12 tyX12_ok nmX12 hown hK.1 hP hD hS 0 rfl rfl 6 (by decide) w0 (fun _ h9 => h9) rfl (by decide +kernel) rfl rfl (Nat.le_of_ble_eq_true rfl) dX12_sheet_41 (fun H locs hP hD hS => ?_)
      obtain ⟨hP, hD⟩ : PD D A [O12 a12 r12 v12_keptMany v12_done x11 v12_holes v12_worms v12_laidMany v12_wanted v12_orderMany v12_firstOrder v12_lines v12_marks v12_dots v12_madeIn v12_bound v12_places v12_maps v12_tapeMany v12_stories v12_base v12_at v12_ends v12_fault v12_opened v12_bodies v12_ran v12_ownKind v12_ownNumber, (cI κ (r12 0) 55 g9)] H := ⟨hP, hD⟩
      have h14 : 0 ≤ x11.toInt ∧ x11.toInt ≤ 8 := by omega
      refine lv_aload_n hx hb dX12_sheet_44 rfl (lv_at hl 0 rfl) ?_
      refine va_get (D := D) (ci := 12) (v := .int x11) (C := RX12) (T := TX12) (N := 63) hx hb hts w1 hown hK.1 hP 0 rfl rfl 6 (by decide) w0 (fun _ h9 => h9) rfl dX12_sheet_45 ?_
      refine lv_iconst (v := 1) hx hb dX12_sheet_48 (by decide) ?_
      refine lv_isub hx hb dX12_sheet_49 ?_
      refine lv_topi (fun x15 e16 => ?_)
      try have h17 : x15.toInt = x11.toInt - (1 : Int32).toInt := ci_sub e16 (by omega) (by omega)
      have hpo : (0 ≤ x11.toInt ∧ x11.toInt ≤ 8) ∧ ((¬ (0 ≤ p1.toInt ∧ p1.toInt ≤ 2000) ∧ x15.toInt = -1 ∧ x11.toInt = v12_sheets.toInt) ∨ ((0 ≤ p1.toInt ∧ p1.toInt ≤ 2000) ∧ v12_sheets.toInt = 8 ∧ x15.toInt = -3 ∧ x11.toInt = v12_sheets.toInt) ∨ ((0 ≤ p1.toInt ∧ p1.toInt ≤ 2000) ∧ v12_sheets.toInt < 8 ∧ x15.toInt = v12_sheets.toInt ∧ x11.toInt = v12_sheets.toInt + 1)) := ⟨h14, (by omega)⟩
      exact ret _ _ _ _ x15 (x11, g9) dX12_sheet_50 hpo hP hD hS
    have c5 := ci_eq c5
    refine lv_bipush (v := (-3)) hx hb dX12_sheet_18 (by decide) ?_
    have hpo : (0 ≤ v12_sheets.toInt ∧ v12_sheets.toInt ≤ 8) ∧ ((¬ (0 ≤ p1.toInt ∧ p1.toInt ≤ 2000) ∧ ((-3) : Int32).toInt = -1 ∧ v12_sheets.toInt = v12_sheets.toInt) ∨ ((0 ≤ p1.toInt ∧ p1.toInt ≤ 2000) ∧ v12_sheets.toInt = 8 ∧ ((-3) : Int32).toInt = -3 ∧ v12_sheets.toInt = v12_sheets.toInt) ∨ ((0 ≤ p1.toInt ∧ p1.toInt ≤ 2000) ∧ v12_sheets.toInt < 8 ∧ ((-3) : Int32).toInt = v12_sheets.toInt ∧ v12_sheets.toInt = v12_sheets.toInt + 1)) := ⟨i3, (by omega)⟩
    exact ret _ _ _ _ (-3) (v12_sheets, f12_may) dX12_sheet_20 hpo hP hD hS
  have c4 := ci_eq c4
  refine lv_iconst (v := (-1)) hx hb dX12_sheet_7 (by decide) ?_
  have hpo : (0 ≤ v12_sheets.toInt ∧ v12_sheets.toInt ≤ 8) ∧ ((¬ (0 ≤ p1.toInt ∧ p1.toInt ≤ 2000) ∧ ((-1) : Int32).toInt = -1 ∧ v12_sheets.toInt = v12_sheets.toInt) ∨ ((0 ≤ p1.toInt ∧ p1.toInt ≤ 2000) ∧ v12_sheets.toInt = 8 ∧ ((-1) : Int32).toInt = -3 ∧ v12_sheets.toInt = v12_sheets.toInt) ∨ ((0 ≤ p1.toInt ∧ p1.toInt ≤ 2000) ∧ v12_sheets.toInt < 8 ∧ ((-1) : Int32).toInt = v12_sheets.toInt ∧ v12_sheets.toInt = v12_sheets.toInt + 1)) := ⟨i3, (by omega)⟩
  exact ret _ _ _ _ (-1) (v12_sheets, f12_may) dX12_sheet_8 hpo hP hD hS
set_option maxHeartbeats 4000000 in
set_option maxRecDepth 100000 in
theorem k_X12_becomes (l : Launch) (D : va_G) (κ : Nat → ClassId) (β : Nat) (a12 : Nat) (r12 : Nat → Nat) (v12_keptMany : Int32) (v12_done : Int32) (v12_sheets : Int32) (v12_holes : Int32) (v12_worms : Int32) (v12_laidMany : Int32) (v12_wanted : Int32) (v12_orderMany : Int32) (v12_firstOrder : Int32) (v12_lines : Int32) (v12_marks : Int32) (v12_dots : Int32) (v12_madeIn : Int32) (v12_bound : Int32) (v12_places : Int32) (v12_maps : Int32) (v12_tapeMany : Int32) (v12_stories : Int32) (v12_base : Int32) (v12_at : Int32) (v12_ends : Int32) (v12_fault : Int32) (v12_opened : Int32) (v12_bodies : Int32) (v12_ran : Int32) (v12_ownKind : Int32) (v12_ownNumber : Int32) (f12_may : Nat → Int32) (f12_changeAt : Nat → Int32) (f12_changeWas : Nat → Int32) (f12_changeIs : Nat → Int32) (sz : Nat) (p1 : Int32) (p2 : Int32) (i1 : Rg 0 40 v12_keptMany) (i2 : Rg 0 40 v12_done) (i3 : Rg 0 8 v12_sheets) (i4 : Rg 0 40 v12_holes) (i5 : Rg 0 40 v12_worms) (i6 : Rg 0 8 v12_laidMany) (i7 : Rg 0 8 v12_wanted) (i8 : Rg 0 20 v12_lines) (i9 : Rg 0 60 v12_marks) (i10 : Rg 0 40 v12_dots) (i11 : Rg 0 20 v12_places) (i12 : Rg 0 8 v12_maps) (i13 : Rg 0 120 v12_tapeMany) (i14 : Rg 0 6 v12_stories) (i15 : Rg 0 50 v12_bodies) (i16 : Rg 0 1000 v12_ran) (hf12_changeAt : ∀ j : Nat, 0 ≤ (f12_changeAt j).toInt ∧ (f12_changeAt j).toInt ≤ 54) (i17 : v12_done.toInt ≤ v12_keptMany.toInt) (i18 : 0 ≤ p1.toInt ∧ p1.toInt ≤ 54) : Met l yX12_becomes wsX12_becomes ({ frames := 0, cells := 0, slots := 0, locals := 0 } : Room) (PcK D κ β [O12 a12 r12 v12_keptMany v12_done v12_sheets v12_holes v12_worms v12_laidMany v12_wanted v12_orderMany v12_firstOrder v12_lines v12_marks v12_dots v12_madeIn v12_bound v12_places v12_maps v12_tapeMany v12_stories v12_base v12_at v12_ends v12_fault v12_opened v12_bodies v12_ran v12_ownKind v12_ownNumber, (cI κ (r12 0) 55 f12_may), (cI κ (r12 1) 40 f12_changeAt), (cI κ (r12 2) 40 f12_changeWas), (cI κ (r12 3) 40 f12_changeIs)] sz [.ref a12, .int p1, .int p2]) (QiK D (fun (r : Int32) (u : Int32 × Int32 × (Nat → Int32) × (Nat → Int32) × (Nat → Int32) × (Nat → Int32)) => (0 ≤ u.1.toInt ∧ u.1.toInt ≤ 40) ∧ (0 ≤ u.2.1.toInt ∧ u.2.1.toInt ≤ 40) ∧ (∀ j : Nat, 0 ≤ (u.2.2.2.1 j).toInt ∧ (u.2.2.2.1 j).toInt ≤ 54) ∧ (u.2.1.toInt ≤ u.1.toInt)) (fun (u : Int32 × Int32 × (Nat → Int32) × (Nat → Int32) × (Nat → Int32) × (Nat → Int32)) => [O12 a12 r12 u.1 u.2.1 v12_sheets v12_holes v12_worms v12_laidMany v12_wanted v12_orderMany v12_firstOrder v12_lines v12_marks v12_dots v12_madeIn v12_bound v12_places v12_maps v12_tapeMany v12_stories v12_base v12_at v12_ends v12_fault v12_opened v12_bodies v12_ran v12_ownKind v12_ownNumber, (cI κ (r12 0) 55 u.2.2.1), (cI κ (r12 1) 40 u.2.2.2.1), (cI κ (r12 2) 40 u.2.2.2.2.1), (cI κ (r12 3) 40 u.2.2.2.2.2)]) [O12 a12 r12 v12_keptMany v12_done v12_sheets v12_holes v12_worms v12_laidMany v12_wanted v12_orderMany v12_firstOrder v12_lines v12_marks v12_dots v12_madeIn v12_bound v12_places v12_maps v12_tapeMany v12_stories v12_base v12_at v12_ends v12_fault v12_opened v12_bodies v12_ran v12_ownKind v12_ownNumber, (cI κ (r12 0) 55 f12_may), (cI κ (r12 1) 40 f12_changeAt), (cI κ (r12 2) 40 f12_changeWas), (cI κ (r12 3) 40 f12_changeIs)] sz) 0 0 (va_A [O12 a12 r12 v12_keptMany v12_done v12_sheets v12_holes v12_worms v12_laidMany v12_wanted v12_orderMany v12_firstOrder v12_lines v12_marks v12_dots v12_madeIn v12_bound v12_places v12_maps v12_tapeMany v12_stories v12_base v12_at v12_ends v12_fault v12_opened v12_bodies v12_ran v12_ownKind v12_ownNumber, (cI κ (r12 0) 55 f12_may), (cI κ (r12 1) 40 f12_changeAt), (cI κ (r12 2) 40 f12_changeWas), (cI κ (r12 3) 40 f12_changeIs)] sz) := by
  refine ofK_i (cc := cX12_becomes) (maxL := 5) (own := RX12) (by decide) rfl rfl (Nat.le_of_ble_eq_true rfl) ?_
  intro p e s m args below meth c Q A ls hsz hx hb hml hts hown hK hA hAB hP hD hl ret
  have hS : va_S A s.heap s.heap [] := va_S.rf
  have hl : lv_has ls 5 [(0, .ref a12), (1, .int p1), (2, .int p2)] := hl
  have w0 := hts (.fieldLink RX12 9 "OlderSkinModel" "may" "[I") (List.mem_of_getElem? (i := 1) rfl)
  have w1 := (fun w h => List.mem_cons_of_mem _ (List.mem_append_right _ h) : ∀ w ∈ u_ws RX12 TX12 63, w ∈ wsX12_becomes)
  have w2 := hts (.fieldLink RX12 127 "OlderSkinModel" "done" "I") (List.mem_of_getElem? (i := 2) rfl)
  have w3 := hts (.fieldLink RX12 13 "OlderSkinModel" "changeAt" "[I") (List.mem_of_getElem? (i := 3) rfl)
  have w4 := hts (.fieldLink RX12 16 "OlderSkinModel" "changeWas" "[I") (List.mem_of_getElem? (i := 4) rfl)
  have w5 := hts (.fieldLink RX12 19 "OlderSkinModel" "changeIs" "[I") (List.mem_of_getElem? (i := 5) rfl)
  have w6 := hts (.fieldLink RX12 130 "OlderSkinModel" "keptMany" "I") (List.mem_of_getElem? (i := 6) rfl)
  have l0 : (0 : Int32).toInt = 0 := by decide
  have l1 : (40 : Int32).toInt = 40 := by decide
  have l2 : (1 : Int32).toInt = 1 := by decide
  have i1 : 0 ≤ v12_keptMany.toInt ∧ v12_keptMany.toInt ≤ 40 := i1
  have i2 : 0 ≤ v12_done.toInt ∧ v12_done.toInt ≤ 40 := i2
  refine lv_aload_n hx hb dX12_becomes_0 rfl (lv_at hl 0 rfl) ?_
  refine va_get (D := D) (ci := 12) (v := .ref (r12 0)) (C := RX12) (T := TX12) (N := 63) hx hb hts w1 hown hK.1 hP 0 rfl rfl 0 (by decide) w0 (fun _ h9 => h9) rfl dX12_becomes_1 ?_
  refine lv_iload_n hx hb dX12_becomes_4 rfl (lv_at hl 1 rfl) ?_
  refine va_iald hx hb hK.1 hP 1 1 rfl rfl (i := p1) (ix (by omega) (by omega)) dX12_becomes_5 ?_
  refine lv_topi (fun x1 e2 => ?_)
  refine lv_istore_n (lv' := [(3, .int x1), (0, .ref a12), (1, .int p1), (2, .int p2)]) hx hb dX12_becomes_6 rfl hl (by decide) rfl (fun ls hl => ?_)
  refine lv_iload_n hx hb dX12_becomes_7 rfl (lv_at hl 0 rfl) ?_
  refine lv_iload_n hx hb dX12_becomes_8 rfl (lv_at hl 3 rfl) ?_
  refine lv_icmp_ne (tgt := 14) hx hb dX12_becomes_9 (by decide) (fun c3 => ?_) (fun c3 => ?_)
  · have c3 := ci_ne c3
    refine lv_aload_n hx hb dX12_becomes_14 rfl (lv_at hl 1 rfl) ?_
    refine va_get (D := D) (ci := 12) (v := .int v12_done) (C := RX12) (T := TX12) (N := 63) hx hb hts w1 hown hK.1 hP 0 rfl rfl 5 (by decide) w2 (fun _ h9 => h9) rfl dX12_becomes_15 ?_
    refine lv_bipush (v := 40) hx hb dX12_becomes_18 (by decide) ?_
    refine lv_icmp_ne (tgt := 97) hx hb dX12_becomes_20 (by decide) (fun c4 => ?_) (fun c4 => ?_)
    · have c4 := ci_ne c4
      refine lv_aload_n hx hb dX12_becomes_97 rfl (lv_at hl 1 rfl) ?_
      refine va_get (D := D) (ci := 12) (v := .ref (r12 1)) (C := RX12) (T := TX12) (N := 63) hx hb hts w1 hown hK.1 hP 0 rfl rfl 1 (by decide) w3 (fun _ h9 => h9) rfl dX12_becomes_98 ?_
      refine lv_aload_n hx hb dX12_becomes_101 rfl (lv_at hl 1 rfl) ?_
      refine va_get (D := D) (ci := 12) (v := .int v12_done) (C := RX12) (T := TX12) (N := 63) hx hb hts w1 hown hK.1 hP 0 rfl rfl 5 (by decide) w2 (fun _ h9 => h9) rfl dX12_becomes_102 ?_
      refine lv_iload_n hx hb dX12_becomes_105 rfl (lv_at hl 2 rfl) ?_
      refine va_iast hx hb hK.1 hP hD hS 2 1 rfl rfl (i := v12_done) (ix (by omega) (by omega)) dX12_becomes_106 (fun H locs hP hD hS => ?_)
      obtain ⟨g5, e6⟩ : ∃ y : Nat → Int32, y = upd f12_changeAt v12_done.toNatClampNeg p1 := ⟨_, rfl⟩
      rw [← e6] at hP hD
      obtain ⟨hP, hD⟩ : PD D A [O12 a12 r12 v12_keptMany v12_done v12_sheets v12_holes v12_worms v12_laidMany v12_wanted v12_orderMany v12_firstOrder v12_lines v12_marks v12_dots v12_madeIn v12_bound v12_places v12_maps v12_tapeMany v12_stories v12_base v12_at v12_ends v12_fault v12_opened v12_bodies v12_ran v12_ownKind v12_ownNumber, (cI κ (r12 0) 55 f12_may), (cI κ (r12 1) 40 g5), (cI κ (r12 2) 40 f12_changeWas), (cI κ (r12 3) 40 f12_changeIs)] H := ⟨hP, hD⟩
      have h7 : ∀ j : Nat, 0 ≤ (g5 j).toInt ∧ (g5 j).toInt ≤ 54 := by rw [e6]; exact all_upd (P := fun z => 0 ≤ z.toInt ∧ z.toInt ≤ 54) hf12_changeAt (by omega)
      refine lv_aload_n hx hb dX12_becomes_107 rfl (lv_at hl 1 rfl) ?_
      refine va_get (D := D) (ci := 12) (v := .ref (r12 2)) (C := RX12) (T := TX12) (N := 63) hx hb hts w1 hown hK.1 hP 0 rfl rfl 2 (by decide) w4 (fun _ h9 => h9) rfl dX12_becomes_108 ?_
      refine lv_aload_n hx hb dX12_becomes_111 rfl (lv_at hl 1 rfl) ?_
      refine va_get (D := D) (ci := 12) (v := .int v12_done) (C := RX12) (T := TX12) (N := 63) hx hb hts w1 hown hK.1 hP 0 rfl rfl 5 (by decide) w2 (fun _ h9 => h9) rfl dX12_becomes_112 ?_
      refine lv_iload_n hx hb dX12_becomes_115 rfl (lv_at hl 0 rfl) ?_
      refine va_iast hx hb hK.1 hP hD hS 3 1 rfl rfl (i := v12_done) (ix (by omega) (by omega)) dX12_becomes_116 (fun H locs hP hD hS => ?_)
      obtain ⟨g8, e9⟩ : ∃ y : Nat → Int32, y = upd f12_changeWas v12_done.toNatClampNeg x1 := ⟨_, rfl⟩
      rw [← e9] at hP hD
      obtain ⟨hP, hD⟩ : PD D A [O12 a12 r12 v12_keptMany v12_done v12_sheets v12_holes v12_worms v12_laidMany v12_wanted v12_orderMany v12_firstOrder v12_lines v12_marks v12_dots v12_madeIn v12_bound v12_places v12_maps v12_tapeMany v12_stories v12_base v12_at v12_ends v12_fault v12_opened v12_bodies v12_ran v12_ownKind v12_ownNumber, (cI κ (r12 0) 55 f12_may), (cI κ (r12 1) 40 g5), (cI κ (r12 2) 40 g8), (cI κ (r12 3) 40 f12_changeIs)] H := ⟨hP, hD⟩
      refine lv_aload_n hx hb dX12_becomes_117 rfl (lv_at hl 1 rfl) ?_
      refine va_get (D := D) (ci := 12) (v := .ref (r12 3)) (C := RX12) (T := TX12) (N := 63) hx hb hts w1 hown hK.1 hP 0 rfl rfl 3 (by decide) w5 (fun _ h9 => h9) rfl dX12_becomes_118 ?_
      refine lv_aload_n hx hb dX12_becomes_121 rfl (lv_at hl 1 rfl) ?_
      refine va_get (D := D) (ci := 12) (v := .int v12_done) (C := RX12) (T := TX12) (N := 63) hx hb hts w1 hown hK.1 hP 0 rfl rfl 5 (by decide) w2 (fun _ h9 => h9) rfl dX12_becomes_122 ?_
      refine lv_iload_n hx hb dX12_becomes_125 rfl (lv_at hl 3 rfl) ?_
      refine va_iast hx hb hK.1 hP hD hS 4 1 rfl rfl (i := v12_done) (ix (by omega) (by omega)) dX12_becomes_126 (fun H locs hP hD hS => ?_)
      obtain ⟨g10, e11⟩ : ∃ y : Nat → Int32, y = upd f12_changeIs v12_done.toNatClampNeg p2 := ⟨_, rfl⟩
      rw [← e11] at hP hD
      obtain ⟨hP, hD⟩ : PD D A [O12 a12 r12 v12_keptMany v12_done v12_sheets v12_holes v12_worms v12_laidMany v12_wanted v12_orderMany v12_firstOrder v12_lines v12_marks v12_dots v12_madeIn v12_bound v12_places v12_maps v12_tapeMany v12_stories v12_base v12_at v12_ends v12_fault v12_opened v12_bodies v12_ran v12_ownKind v12_ownNumber, (cI κ (r12 0) 55 f12_may), (cI κ (r12 1) 40 g5), (cI κ (r12 2) 40 g8), (cI κ (r12 3) 40 g10)] H := ⟨hP, hD⟩
      refine lv_aload_n hx hb dX12_becomes_127 rfl (lv_at hl 1 rfl) ?_
      refine lv_dup hx hb dX12_becomes_128 rfl ?_
      refine va_get (D := D) (ci := 12) (v := .int v12_done) (C := RX12) (T := TX12) (N := 63) hx hb hts w1 hown hK.1 hP 0 rfl rfl 5 (by decide) w2 (fun _ h9 => h9) rfl dX12_becomes_129 ?_
      refine lv_iconst (v := 1) hx hb dX12_becomes_132 (by decide) ?_
      refine lv_iadd hx hb dX12_becomes_133 ?_
      refine lv_topi (fun x12 e13 => ?_)
      try have h14 : x12.toInt = v12_done.toInt + (1 : Int32).toInt := ci_add e13 (by omega) (by omega)
      refine va_put (D := D) (ci := 12) (v := .int x12) (ty := .int) (C := RX12) (T := TX12) (N := 63) hx hb hts w1 tyX12 tyX12_ok nmX12 hown hK.1 hP hD hS 0 rfl rfl 5 (by decide) w2 (fun _ h9 => h9) rfl (by decide +kernel) rfl rfl (Nat.le_of_ble_eq_true rfl) dX12_becomes_134 (fun H locs hP hD hS => ?_)
      obtain ⟨hP, hD⟩ : PD D A [O12 a12 r12 v12_keptMany x12 v12_sheets v12_holes v12_worms v12_laidMany v12_wanted v12_orderMany v12_firstOrder v12_lines v12_marks v12_dots v12_madeIn v12_bound v12_places v12_maps v12_tapeMany v12_stories v12_base v12_at v12_ends v12_fault v12_opened v12_bodies v12_ran v12_ownKind v12_ownNumber, (cI κ (r12 0) 55 f12_may), (cI κ (r12 1) 40 g5), (cI κ (r12 2) 40 g8), (cI κ (r12 3) 40 g10)] H := ⟨hP, hD⟩
      refine lv_aload_n hx hb dX12_becomes_137 rfl (lv_at hl 1 rfl) ?_
      refine lv_aload_n hx hb dX12_becomes_138 rfl (lv_at hl 1 rfl) ?_
      refine va_get (D := D) (ci := 12) (v := .int x12) (C := RX12) (T := TX12) (N := 63) hx hb hts w1 hown hK.1 hP 0 rfl rfl 5 (by decide) w2 (fun _ h9 => h9) rfl dX12_becomes_139 ?_
      refine va_put (D := D) (ci := 12) (v := .int x12) (ty := .int) (C := RX12) (T := TX12) (N := 63) hx hb hts w1 tyX12 tyX12_ok nmX12 hown hK.1 hP hD hS 0 rfl rfl 4 (by decide) w6 (fun _ h9 => h9) rfl (by decide +kernel) rfl rfl (Nat.le_of_ble_eq_true rfl) dX12_becomes_142 (fun H locs hP hD hS => ?_)
      obtain ⟨hP, hD⟩ : PD D A [O12 a12 r12 x12 x12 v12_sheets v12_holes v12_worms v12_laidMany v12_wanted v12_orderMany v12_firstOrder v12_lines v12_marks v12_dots v12_madeIn v12_bound v12_places v12_maps v12_tapeMany v12_stories v12_base v12_at v12_ends v12_fault v12_opened v12_bodies v12_ran v12_ownKind v12_ownNumber, (cI κ (r12 0) 55 f12_may), (cI κ (r12 1) 40 g5), (cI κ (r12 2) 40 g8), (cI κ (r12 3) 40 g10)] H := ⟨hP, hD⟩
      have h15 : 0 ≤ x12.toInt ∧ x12.toInt ≤ 40 := by omega
      have h16 : x12.toInt ≤ x12.toInt := by omega
      refine lv_aload_n hx hb dX12_becomes_145 rfl (lv_at hl 1 rfl) ?_
      refine va_get (D := D) (ci := 12) (v := .ref (r12 0)) (C := RX12) (T := TX12) (N := 63) hx hb hts w1 hown hK.1 hP 0 rfl rfl 0 (by decide) w0 (fun _ h9 => h9) rfl dX12_becomes_146 ?_
      refine lv_iload_n hx hb dX12_becomes_149 rfl (lv_at hl 2 rfl) ?_
      refine lv_iload_n hx hb dX12_becomes_150 rfl (lv_at hl 3 rfl) ?_
      refine va_iast hx hb hK.1 hP hD hS 1 1 rfl rfl (i := p1) (ix (by omega) (by omega)) dX12_becomes_151 (fun H locs hP hD hS => ?_)
      obtain ⟨g17, e18⟩ : ∃ y : Nat → Int32, y = upd f12_may p1.toNatClampNeg p2 := ⟨_, rfl⟩
      rw [← e18] at hP hD
      obtain ⟨hP, hD⟩ : PD D A [O12 a12 r12 x12 x12 v12_sheets v12_holes v12_worms v12_laidMany v12_wanted v12_orderMany v12_firstOrder v12_lines v12_marks v12_dots v12_madeIn v12_bound v12_places v12_maps v12_tapeMany v12_stories v12_base v12_at v12_ends v12_fault v12_opened v12_bodies v12_ran v12_ownKind v12_ownNumber, (cI κ (r12 0) 55 g17), (cI κ (r12 1) 40 g5), (cI κ (r12 2) 40 g8), (cI κ (r12 3) 40 g10)] H := ⟨hP, hD⟩
      refine lv_iload_n hx hb dX12_becomes_152 rfl (lv_at hl 0 rfl) ?_
      have hpo : (0 ≤ x12.toInt ∧ x12.toInt ≤ 40) ∧ (0 ≤ x12.toInt ∧ x12.toInt ≤ 40) ∧ (∀ j : Nat, 0 ≤ (g5 j).toInt ∧ (g5 j).toInt ≤ 54) ∧ (x12.toInt ≤ x12.toInt) := ⟨h15, h15, h7, h16⟩
      exact ret _ _ _ _ x1 (x12, x12, g17, g5, g8, g10) dX12_becomes_153 hpo hP hD hS
    have c4 := ci_eq c4
    refine lv_iconst (v := 1) hx hb dX12_becomes_23 (by decide) ?_
    refine lv_istore (lv' := [(4, .int 1), (3, .int x1), (0, .ref a12), (1, .int p1), (2, .int p2)]) hx hb dX12_becomes_24 hl (by decide) rfl (fun ls hl => ?_)
    have lp26 : ∀ (n26 : Nat) (k19 : Int32) (g20 : Nat → Int32) (g22 : Nat → Int32) (g23 : Nat → Int32), (∀ j : Nat, 0 ≤ (g20 j).toInt ∧ (g20 j).toInt ≤ 54) → (1 ≤ k19.toInt) → (0 ≤ k19.toInt) → (40 - k19.toInt).toNat < n26 → ∀ (H : Heap) (locs : List Loc), va_P D vwCl [O12 a12 r12 v12_keptMany v12_done v12_sheets v12_holes v12_worms v12_laidMany v12_wanted v12_orderMany v12_firstOrder v12_lines v12_marks v12_dots v12_madeIn v12_bound v12_places v12_maps v12_tapeMany v12_stories v12_base v12_at v12_ends v12_fault v12_opened v12_bodies v12_ran v12_ownKind v12_ownNumber, (cI κ (r12 0) 55 f12_may), (cI κ (r12 1) 40 g20), (cI κ (r12 2) 40 g22), (cI κ (r12 3) 40 g23)] H → va_D A [O12 a12 r12 v12_keptMany v12_done v12_sheets v12_holes v12_worms v12_laidMany v12_wanted v12_orderMany v12_firstOrder v12_lines v12_marks v12_dots v12_madeIn v12_bound v12_places v12_maps v12_tapeMany v12_stories v12_base v12_at v12_ends v12_fault v12_opened v12_bodies v12_ran v12_ownKind v12_ownNumber, (cI κ (r12 0) 55 f12_may), (cI κ (r12 1) 40 g20), (cI κ (r12 2) 40 g22), (cI κ (r12 3) 40 g23)] → va_S A s.heap H locs → ∀ ls : Array Slot, lv_has ls 5 [(4, .int k19), (3, .int x1), (0, .ref a12), (1, .int p1), (2, .int p2)] → W p l e ({ frames := 0, cells := 0, slots := 0, locals := 0 } : Room) s m args below meth c H locs 0 0 Q (F0 m 26 ls []) := by
      intro n26
      induction n26 with
      | zero =>
        intro k19 g20 g22 g23 h21 h24 h25 m26
        exact absurd m26 (Nat.not_lt_zero _)
      | succ n26 ih26 =>
        intro k19 g20 g22 g23 h21 h24 h25 m26 H locs hP hD hS ls hl
        refine lv_iload hx hb dX12_becomes_26 (lv_at hl 0 rfl) ?_
        refine lv_bipush (v := 40) hx hb dX12_becomes_28 (by decide) ?_
        refine lv_icmp_ge (tgt := 87) hx hb dX12_becomes_30 (by decide) (fun c27 => ?_) (fun c27 => ?_)
        · have c27 := ci_le c27
          refine lv_aload_n hx hb dX12_becomes_87 rfl (lv_at hl 2 rfl) ?_
          refine lv_dup hx hb dX12_becomes_88 rfl ?_
          refine va_get (D := D) (ci := 12) (v := .int v12_done) (C := RX12) (T := TX12) (N := 63) hx hb hts w1 hown hK.1 hP 0 rfl rfl 5 (by decide) w2 (fun _ h9 => h9) rfl dX12_becomes_89 ?_
          refine lv_iconst (v := 1) hx hb dX12_becomes_92 (by decide) ?_
          refine lv_isub hx hb dX12_becomes_93 ?_
          refine lv_topi (fun x28 e29 => ?_)
          try have h30 : x28.toInt = v12_done.toInt - (1 : Int32).toInt := ci_sub e29 (by omega) (by omega)
          refine va_put (D := D) (ci := 12) (v := .int x28) (ty := .int) (C := RX12) (T := TX12) (N := 63) hx hb hts w1 tyX12 tyX12_ok nmX12 hown hK.1 hP hD hS 0 rfl rfl 5 (by decide) w2 (fun _ h9 => h9) rfl (by decide +kernel) rfl rfl (Nat.le_of_ble_eq_true rfl) dX12_becomes_94 (fun H locs hP hD hS => ?_)
          obtain ⟨hP, hD⟩ : PD D A [O12 a12 r12 v12_keptMany x28 v12_sheets v12_holes v12_worms v12_laidMany v12_wanted v12_orderMany v12_firstOrder v12_lines v12_marks v12_dots v12_madeIn v12_bound v12_places v12_maps v12_tapeMany v12_stories v12_base v12_at v12_ends v12_fault v12_opened v12_bodies v12_ran v12_ownKind v12_ownNumber, (cI κ (r12 0) 55 f12_may), (cI κ (r12 1) 40 g20), (cI κ (r12 2) 40 g22), (cI κ (r12 3) 40 g23)] H := ⟨hP, hD⟩
          have h31 : 0 ≤ x28.toInt ∧ x28.toInt ≤ 40 := by omega
          have h32 : x28.toInt ≤ v12_keptMany.toInt := by omega
          refine lv_aload_n hx hb dX12_becomes_97 rfl (lv_at hl 2 rfl) ?_
          refine va_get (D := D) (ci := 12) (v := .ref (r12 1)) (C := RX12) (T := TX12) (N := 63) hx hb hts w1 hown hK.1 hP 0 rfl rfl 1 (by decide) w3 (fun _ h9 => h9) rfl dX12_becomes_98 ?_
          refine lv_aload_n hx hb dX12_becomes_101 rfl (lv_at hl 2 rfl) ?_
          refine va_get (D := D) (ci := 12) (v := .int x28) (C := RX12) (T := TX12) (N := 63) hx hb hts w1 hown hK.1 hP 0 rfl rfl 5 (by decide) w2 (fun _ h9 => h9) rfl dX12_becomes_102 ?_
          refine lv_iload_n hx hb dX12_becomes_105 rfl (lv_at hl 3 rfl) ?_
          refine va_iast hx hb hK.1 hP hD hS 2 1 rfl rfl (i := x28) (ix (by omega) (by omega)) dX12_becomes_106 (fun H locs hP hD hS => ?_)
          obtain ⟨g33, e34⟩ : ∃ y : Nat → Int32, y = upd g20 x28.toNatClampNeg p1 := ⟨_, rfl⟩
          rw [← e34] at hP hD
          obtain ⟨hP, hD⟩ : PD D A [O12 a12 r12 v12_keptMany x28 v12_sheets v12_holes v12_worms v12_laidMany v12_wanted v12_orderMany v12_firstOrder v12_lines v12_marks v12_dots v12_madeIn v12_bound v12_places v12_maps v12_tapeMany v12_stories v12_base v12_at v12_ends v12_fault v12_opened v12_bodies v12_ran v12_ownKind v12_ownNumber, (cI κ (r12 0) 55 f12_may), (cI κ (r12 1) 40 g33), (cI κ (r12 2) 40 g22), (cI κ (r12 3) 40 g23)] H := ⟨hP, hD⟩
          have h35 : ∀ j : Nat, 0 ≤ (g33 j).toInt ∧ (g33 j).toInt ≤ 54 := by rw [e34]; exact all_upd (P := fun z => 0 ≤ z.toInt ∧ z.toInt ≤ 54) h21 (by omega)
          refine lv_aload_n hx hb dX12_becomes_107 rfl (lv_at hl 2 rfl) ?_
          refine va_get (D := D) (ci := 12) (v := .ref (r12 2)) (C := RX12) (T := TX12) (N := 63) hx hb hts w1 hown hK.1 hP 0 rfl rfl 2 (by decide) w4 (fun _ h9 => h9) rfl dX12_becomes_108 ?_
          refine lv_aload_n hx hb dX12_becomes_111 rfl (lv_at hl 2 rfl) ?_
          refine va_get (D := D) (ci := 12) (v := .int x28) (C := RX12) (T := TX12) (N := 63) hx hb hts w1 hown hK.1 hP 0 rfl rfl 5 (by decide) w2 (fun _ h9 => h9) rfl dX12_becomes_112 ?_
          refine lv_iload_n hx hb dX12_becomes_115 rfl (lv_at hl 1 rfl) ?_
          refine va_iast hx hb hK.1 hP hD hS 3 1 rfl rfl (i := x28) (ix (by omega) (by omega)) dX12_becomes_116 (fun H locs hP hD hS => ?_)
          obtain ⟨g36, e37⟩ : ∃ y : Nat → Int32, y = upd g22 x28.toNatClampNeg x1 := ⟨_, rfl⟩
          rw [← e37] at hP hD
          obtain ⟨hP, hD⟩ : PD D A [O12 a12 r12 v12_keptMany x28 v12_sheets v12_holes v12_worms v12_laidMany v12_wanted v12_orderMany v12_firstOrder v12_lines v12_marks v12_dots v12_madeIn v12_bound v12_places v12_maps v12_tapeMany v12_stories v12_base v12_at v12_ends v12_fault v12_opened v12_bodies v12_ran v12_ownKind v12_ownNumber, (cI κ (r12 0) 55 f12_may), (cI κ (r12 1) 40 g33), (cI κ (r12 2) 40 g36), (cI κ (r12 3) 40 g23)] H := ⟨hP, hD⟩
          refine lv_aload_n hx hb dX12_becomes_117 rfl (lv_at hl 2 rfl) ?_
          refine va_get (D := D) (ci := 12) (v := .ref (r12 3)) (C := RX12) (T := TX12) (N := 63) hx hb hts w1 hown hK.1 hP 0 rfl rfl 3 (by decide) w5 (fun _ h9 => h9) rfl dX12_becomes_118 ?_
          refine lv_aload_n hx hb dX12_becomes_121 rfl (lv_at hl 2 rfl) ?_
          refine va_get (D := D) (ci := 12) (v := .int x28) (C := RX12) (T := TX12) (N := 63) hx hb hts w1 hown hK.1 hP 0 rfl rfl 5 (by decide) w2 (fun _ h9 => h9) rfl dX12_becomes_122 ?_
          refine lv_iload_n hx hb dX12_becomes_125 rfl (lv_at hl 4 rfl) ?_
          refine va_iast hx hb hK.1 hP hD hS 4 1 rfl rfl (i := x28) (ix (by omega) (by omega)) dX12_becomes_126 (fun H locs hP hD hS => ?_)
          obtain ⟨g38, e39⟩ : ∃ y : Nat → Int32, y = upd g23 x28.toNatClampNeg p2 := ⟨_, rfl⟩
          rw [← e39] at hP hD
          obtain ⟨hP, hD⟩ : PD D A [O12 a12 r12 v12_keptMany x28 v12_sheets v12_holes v12_worms v12_laidMany v12_wanted v12_orderMany v12_firstOrder v12_lines v12_marks v12_dots v12_madeIn v12_bound v12_places v12_maps v12_tapeMany v12_stories v12_base v12_at v12_ends v12_fault v12_opened v12_bodies v12_ran v12_ownKind v12_ownNumber, (cI κ (r12 0) 55 f12_may), (cI κ (r12 1) 40 g33), (cI κ (r12 2) 40 g36), (cI κ (r12 3) 40 g38)] H := ⟨hP, hD⟩
          refine lv_aload_n hx hb dX12_becomes_127 rfl (lv_at hl 2 rfl) ?_
          refine lv_dup hx hb dX12_becomes_128 rfl ?_
          refine va_get (D := D) (ci := 12) (v := .int x28) (C := RX12) (T := TX12) (N := 63) hx hb hts w1 hown hK.1 hP 0 rfl rfl 5 (by decide) w2 (fun _ h9 => h9) rfl dX12_becomes_129 ?_
          refine lv_iconst (v := 1) hx hb dX12_becomes_132 (by decide) ?_
          refine lv_iadd hx hb dX12_becomes_133 ?_
          refine lv_topi (fun x40 e41 => ?_)
          try have h42 : x40.toInt = x28.toInt + (1 : Int32).toInt := ci_add e41 (by omega) (by omega)
          refine va_put (D := D) (ci := 12) (v := .int x40) (ty := .int) (C := RX12) (T := TX12) (N := 63) hx hb hts w1 tyX12 tyX12_ok nmX12 hown hK.1 hP hD hS 0 rfl rfl 5 (by decide) w2 (fun _ h9 => h9) rfl (by decide +kernel) rfl rfl (Nat.le_of_ble_eq_true rfl) dX12_becomes_134 (fun H locs hP hD hS => ?_)
          obtain ⟨hP, hD⟩ : PD D A [O12 a12 r12 v12_keptMany x40 v12_sheets v12_holes v12_worms v12_laidMany v12_wanted v12_orderMany v12_firstOrder v12_lines v12_marks v12_dots v12_madeIn v12_bound v12_places v12_maps v12_tapeMany v12_stories v12_base v12_at v12_ends v12_fault v12_opened v12_bodies v12_ran v12_ownKind v12_ownNumber, (cI κ (r12 0) 55 f12_may), (cI κ (r12 1) 40 g33), (cI κ (r12 2) 40 g36), (cI κ (r12 3) 40 g38)] H := ⟨hP, hD⟩
          refine lv_aload_n hx hb dX12_becomes_137 rfl (lv_at hl 2 rfl) ?_
          refine lv_aload_n hx hb dX12_becomes_138 rfl (lv_at hl 2 rfl) ?_
          refine va_get (D := D) (ci := 12) (v := .int x40) (C := RX12) (T := TX12) (N := 63) hx hb hts w1 hown hK.1 hP 0 rfl rfl 5 (by decide) w2 (fun _ h9 => h9) rfl dX12_becomes_139 ?_
          refine va_put (D := D) (ci := 12) (v := .int x40) (ty := .int) (C := RX12) (T := TX12) (N := 63) hx hb hts w1 tyX12 tyX12_ok nmX12 hown hK.1 hP hD hS 0 rfl rfl 4 (by decide) w6 (fun _ h9 => h9) rfl (by decide +kernel) rfl rfl (Nat.le_of_ble_eq_true rfl) dX12_becomes_142 (fun H locs hP hD hS => ?_)
          obtain ⟨hP, hD⟩ : PD D A [O12 a12 r12 x40 x40 v12_sheets v12_holes v12_worms v12_laidMany v12_wanted v12_orderMany v12_firstOrder v12_lines v12_marks v12_dots v12_madeIn v12_bound v12_places v12_maps v12_tapeMany v12_stories v12_base v12_at v12_ends v12_fault v12_opened v12_bodies v12_ran v12_ownKind v12_ownNumber, (cI κ (r12 0) 55 f12_may), (cI κ (r12 1) 40 g33), (cI κ (r12 2) 40 g36), (cI κ (r12 3) 40 g38)] H := ⟨hP, hD⟩
          have h43 : 0 ≤ x40.toInt ∧ x40.toInt ≤ 40 := by omega
          have h44 : x40.toInt ≤ x40.toInt := by omega
          refine lv_aload_n hx hb dX12_becomes_145 rfl (lv_at hl 2 rfl) ?_
          refine va_get (D := D) (ci := 12) (v := .ref (r12 0)) (C := RX12) (T := TX12) (N := 63) hx hb hts w1 hown hK.1 hP 0 rfl rfl 0 (by decide) w0 (fun _ h9 => h9) rfl dX12_becomes_146 ?_
          refine lv_iload_n hx hb dX12_becomes_149 rfl (lv_at hl 3 rfl) ?_
          refine lv_iload_n hx hb dX12_becomes_150 rfl (lv_at hl 4 rfl) ?_
          refine va_iast hx hb hK.1 hP hD hS 1 1 rfl rfl (i := p1) (ix (by omega) (by omega)) dX12_becomes_151 (fun H locs hP hD hS => ?_)
          obtain ⟨g45, e46⟩ : ∃ y : Nat → Int32, y = upd f12_may p1.toNatClampNeg p2 := ⟨_, rfl⟩
          rw [← e46] at hP hD
          obtain ⟨hP, hD⟩ : PD D A [O12 a12 r12 x40 x40 v12_sheets v12_holes v12_worms v12_laidMany v12_wanted v12_orderMany v12_firstOrder v12_lines v12_marks v12_dots v12_madeIn v12_bound v12_places v12_maps v12_tapeMany v12_stories v12_base v12_at v12_ends v12_fault v12_opened v12_bodies v12_ran v12_ownKind v12_ownNumber, (cI κ (r12 0) 55 g45), (cI κ (r12 1) 40 g33), (cI κ (r12 2) 40 g36), (cI κ (r12 3) 40 g38)] H := ⟨hP, hD⟩
          refine lv_iload_n hx hb dX12_becomes_152 rfl (lv_at hl 1 rfl) ?_
          have hpo : (0 ≤ x40.toInt ∧ x40.toInt ≤ 40) ∧ (0 ≤ x40.toInt ∧ x40.toInt ≤ 40) ∧ (∀ j : Nat, 0 ≤ (g33 j).toInt ∧ (g33 j).toInt ≤ 54) ∧ (x40.toInt ≤ x40.toInt) := ⟨h43, h43, h35, h44⟩
          exact ret _ _ _ _ x1 (x40, x40, g45, g33, g36, g38) dX12_becomes_153 hpo hP hD hS
        have c27 := ci_nle c27
        refine lv_aload_n hx hb dX12_becomes_33 rfl (lv_at hl 2 rfl) ?_
        refine va_get (D := D) (ci := 12) (v := .ref (r12 1)) (C := RX12) (T := TX12) (N := 63) hx hb hts w1 hown hK.1 hP 0 rfl rfl 1 (by decide) w3 (fun _ h9 => h9) rfl dX12_becomes_34 ?_
        refine lv_iload hx hb dX12_becomes_37 (lv_at hl 0 rfl) ?_
        refine lv_iconst (v := 1) hx hb dX12_becomes_39 (by decide) ?_
        refine lv_isub hx hb dX12_becomes_40 ?_
        refine lv_topi (fun x47 e48 => ?_)
        try have h49 : x47.toInt = k19.toInt - (1 : Int32).toInt := ci_sub e48 (by omega) (by omega)
        refine lv_aload_n hx hb dX12_becomes_41 rfl (lv_at hl 2 rfl) ?_
        refine va_get (D := D) (ci := 12) (v := .ref (r12 1)) (C := RX12) (T := TX12) (N := 63) hx hb hts w1 hown hK.1 hP 0 rfl rfl 1 (by decide) w3 (fun _ h9 => h9) rfl dX12_becomes_42 ?_
        refine lv_iload hx hb dX12_becomes_45 (lv_at hl 0 rfl) ?_
        refine va_iald hx hb hK.1 hP 2 1 rfl rfl (i := k19) (ix (by omega) (by omega)) dX12_becomes_47 ?_
        refine lv_topi (fun x50 e51 => ?_)
        have h52 : 0 ≤ x50.toInt ∧ x50.toInt ≤ 54 := by rw [e51]; exact h21 _
        refine va_iast hx hb hK.1 hP hD hS 2 1 rfl rfl (i := x47) (ix (by omega) (by omega)) dX12_becomes_48 (fun H locs hP hD hS => ?_)
        obtain ⟨g53, e54⟩ : ∃ y : Nat → Int32, y = upd g20 x47.toNatClampNeg x50 := ⟨_, rfl⟩
        rw [← e54] at hP hD
        obtain ⟨hP, hD⟩ : PD D A [O12 a12 r12 v12_keptMany v12_done v12_sheets v12_holes v12_worms v12_laidMany v12_wanted v12_orderMany v12_firstOrder v12_lines v12_marks v12_dots v12_madeIn v12_bound v12_places v12_maps v12_tapeMany v12_stories v12_base v12_at v12_ends v12_fault v12_opened v12_bodies v12_ran v12_ownKind v12_ownNumber, (cI κ (r12 0) 55 f12_may), (cI κ (r12 1) 40 g53), (cI κ (r12 2) 40 g22), (cI κ (r12 3) 40 g23)] H := ⟨hP, hD⟩
        have h55 : ∀ j : Nat, 0 ≤ (g53 j).toInt ∧ (g53 j).toInt ≤ 54 := by rw [e54]; exact all_upd (P := fun z => 0 ≤ z.toInt ∧ z.toInt ≤ 54) h21 (by omega)
        refine lv_aload_n hx hb dX12_becomes_49 rfl (lv_at hl 2 rfl) ?_
        refine va_get (D := D) (ci := 12) (v := .ref (r12 2)) (C := RX12) (T := TX12) (N := 63) hx hb hts w1 hown hK.1 hP 0 rfl rfl 2 (by decide) w4 (fun _ h9 => h9) rfl dX12_becomes_50 ?_
        refine lv_iload hx hb dX12_becomes_53 (lv_at hl 0 rfl) ?_
        refine lv_iconst (v := 1) hx hb dX12_becomes_55 (by decide) ?_
        refine lv_isub hx hb dX12_becomes_56 ?_
        refine lv_topi (fun x56 e57 => ?_)
        try have h58 : x56.toInt = k19.toInt - (1 : Int32).toInt := ci_sub e57 (by omega) (by omega)
        refine lv_aload_n hx hb dX12_becomes_57 rfl (lv_at hl 2 rfl) ?_
        refine va_get (D := D) (ci := 12) (v := .ref (r12 2)) (C := RX12) (T := TX12) (N := 63) hx hb hts w1 hown hK.1 hP 0 rfl rfl 2 (by decide) w4 (fun _ h9 => h9) rfl dX12_becomes_58 ?_
        refine lv_iload hx hb dX12_becomes_61 (lv_at hl 0 rfl) ?_
        refine va_iald hx hb hK.1 hP 3 1 rfl rfl (i := k19) (ix (by omega) (by omega)) dX12_becomes_63 ?_
        refine lv_topi (fun x59 e60 => ?_)
        refine va_iast hx hb hK.1 hP hD hS 3 1 rfl rfl (i := x56) (ix (by omega) (by omega)) dX12_becomes_64 (fun H locs hP hD hS => ?_)
        obtain ⟨g61, e62⟩ : ∃ y : Nat → Int32, y = upd g22 x56.toNatClampNeg x59 := ⟨_, rfl⟩
        rw [← e62] at hP hD
        obtain ⟨hP, hD⟩ : PD D A [O12 a12 r12 v12_keptMany v12_done v12_sheets v12_holes v12_worms v12_laidMany v12_wanted v12_orderMany v12_firstOrder v12_lines v12_marks v12_dots v12_madeIn v12_bound v12_places v12_maps v12_tapeMany v12_stories v12_base v12_at v12_ends v12_fault v12_opened v12_bodies v12_ran v12_ownKind v12_ownNumber, (cI κ (r12 0) 55 f12_may), (cI κ (r12 1) 40 g53), (cI κ (r12 2) 40 g61), (cI κ (r12 3) 40 g23)] H := ⟨hP, hD⟩
        refine lv_aload_n hx hb dX12_becomes_65 rfl (lv_at hl 2 rfl) ?_
        refine va_get (D := D) (ci := 12) (v := .ref (r12 3)) (C := RX12) (T := TX12) (N := 63) hx hb hts w1 hown hK.1 hP 0 rfl rfl 3 (by decide) w5 (fun _ h9 => h9) rfl dX12_becomes_66 ?_
        refine lv_iload hx hb dX12_becomes_69 (lv_at hl 0 rfl) ?_
        refine lv_iconst (v := 1) hx hb dX12_becomes_71 (by decide) ?_
        refine lv_isub hx hb dX12_becomes_72 ?_
        refine lv_topi (fun x63 e64 => ?_)
        try have h65 : x63.toInt = k19.toInt - (1 : Int32).toInt := ci_sub e64 (by omega) (by omega)
        refine lv_aload_n hx hb dX12_becomes_73 rfl (lv_at hl 2 rfl) ?_
        refine va_get (D := D) (ci := 12) (v := .ref (r12 3)) (C := RX12) (T := TX12) (N := 63) hx hb hts w1 hown hK.1 hP 0 rfl rfl 3 (by decide) w5 (fun _ h9 => h9) rfl dX12_becomes_74 ?_
        refine lv_iload hx hb dX12_becomes_77 (lv_at hl 0 rfl) ?_
        refine va_iald hx hb hK.1 hP 4 1 rfl rfl (i := k19) (ix (by omega) (by omega)) dX12_becomes_79 ?_
        refine lv_topi (fun x66 e67 => ?_)
        refine va_iast hx hb hK.1 hP hD hS 4 1 rfl rfl (i := x63) (ix (by omega) (by omega)) dX12_becomes_80 (fun H locs hP hD hS => ?_)
        obtain ⟨g68, e69⟩ : ∃ y : Nat → Int32, y = upd g23 x63.toNatClampNeg x66 := ⟨_, rfl⟩
        rw [← e69] at hP hD
        obtain ⟨hP, hD⟩ : PD D A [O12 a12 r12 v12_keptMany v12_done v12_sheets v12_holes v12_worms v12_laidMany v12_wanted v12_orderMany v12_firstOrder v12_lines v12_marks v12_dots v12_madeIn v12_bound v12_places v12_maps v12_tapeMany v12_stories v12_base v12_at v12_ends v12_fault v12_opened v12_bodies v12_ran v12_ownKind v12_ownNumber, (cI κ (r12 0) 55 f12_may), (cI κ (r12 1) 40 g53), (cI κ (r12 2) 40 g61), (cI κ (r12 3) 40 g68)] H := ⟨hP, hD⟩
        obtain ⟨x70, e71⟩ : ∃ y : Int32, y = k19 + 1 := ⟨_, rfl⟩
        refine lv_iinc (v := x70) (lv' := [(4, .int x70), (3, .int x1), (0, .ref a12), (1, .int p1), (2, .int p2)]) hx hb dX12_becomes_81 hl (k := 0) rfl (by rw [e71]; rfl) (by decide) rfl (fun ls hl => ?_)
        try have h72 : x70.toInt = k19.toInt + (1 : Int32).toInt := ci_add e71 (by omega) (by omega)
        refine lv_goto (tgt := 26) hx hb dX12_becomes_84 (by decide) ?_
        exact ih26 x70 g53 g61 g68 h55 (by omega) (by omega) (by omega) _ _ hP hD hS _ hl
    exact lp26 ((40 - (1 : Int32).toInt).toNat + 1) 1 f12_changeAt f12_changeWas f12_changeIs hf12_changeAt (by omega) (by omega) (by omega) _ _ hP hD hS _ hl
  have c3 := ci_eq c3
  refine lv_iload_n hx hb dX12_becomes_12 rfl (lv_at hl 0 rfl) ?_
  have hpo : (0 ≤ v12_keptMany.toInt ∧ v12_keptMany.toInt ≤ 40) ∧ (0 ≤ v12_done.toInt ∧ v12_done.toInt ≤ 40) ∧ (∀ j : Nat, 0 ≤ (f12_changeAt j).toInt ∧ (f12_changeAt j).toInt ≤ 54) ∧ (v12_done.toInt ≤ v12_keptMany.toInt) := ⟨i1, i2, hf12_changeAt, i17⟩
  exact ret _ _ _ _ x1 (v12_keptMany, v12_done, f12_may, f12_changeAt, f12_changeWas, f12_changeIs) dX12_becomes_13 hpo hP hD hS
set_option maxHeartbeats 4000000 in
set_option maxRecDepth 100000 in
theorem k_X12_undo (l : Launch) (D : va_G) (κ : Nat → ClassId) (β : Nat) (a12 : Nat) (r12 : Nat → Nat) (v12_keptMany : Int32) (v12_done : Int32) (v12_sheets : Int32) (v12_holes : Int32) (v12_worms : Int32) (v12_laidMany : Int32) (v12_wanted : Int32) (v12_orderMany : Int32) (v12_firstOrder : Int32) (v12_lines : Int32) (v12_marks : Int32) (v12_dots : Int32) (v12_madeIn : Int32) (v12_bound : Int32) (v12_places : Int32) (v12_maps : Int32) (v12_tapeMany : Int32) (v12_stories : Int32) (v12_base : Int32) (v12_at : Int32) (v12_ends : Int32) (v12_fault : Int32) (v12_opened : Int32) (v12_bodies : Int32) (v12_ran : Int32) (v12_ownKind : Int32) (v12_ownNumber : Int32) (f12_may : Nat → Int32) (f12_changeAt : Nat → Int32) (f12_changeWas : Nat → Int32) (sz : Nat) (i1 : Rg 0 40 v12_keptMany) (i2 : Rg 0 40 v12_done) (i3 : Rg 0 8 v12_sheets) (i4 : Rg 0 40 v12_holes) (i5 : Rg 0 40 v12_worms) (i6 : Rg 0 8 v12_laidMany) (i7 : Rg 0 8 v12_wanted) (i8 : Rg 0 20 v12_lines) (i9 : Rg 0 60 v12_marks) (i10 : Rg 0 40 v12_dots) (i11 : Rg 0 20 v12_places) (i12 : Rg 0 8 v12_maps) (i13 : Rg 0 120 v12_tapeMany) (i14 : Rg 0 6 v12_stories) (i15 : Rg 0 50 v12_bodies) (i16 : Rg 0 1000 v12_ran) (hf12_changeAt : ∀ j : Nat, 0 ≤ (f12_changeAt j).toInt ∧ (f12_changeAt j).toInt ≤ 54) (i17 : v12_done.toInt ≤ v12_keptMany.toInt) : Met l yX12_undo wsX12_undo ({ frames := 0, cells := 0, slots := 0, locals := 0 } : Room) (PcK D κ β [O12 a12 r12 v12_keptMany v12_done v12_sheets v12_holes v12_worms v12_laidMany v12_wanted v12_orderMany v12_firstOrder v12_lines v12_marks v12_dots v12_madeIn v12_bound v12_places v12_maps v12_tapeMany v12_stories v12_base v12_at v12_ends v12_fault v12_opened v12_bodies v12_ran v12_ownKind v12_ownNumber, (cI κ (r12 0) 55 f12_may), (cI κ (r12 1) 40 f12_changeAt), (cI κ (r12 2) 40 f12_changeWas)] sz [.ref a12]) (QiK D (fun (r : Int32) (u : Int32 × (Nat → Int32)) => (0 ≤ u.1.toInt ∧ u.1.toInt ≤ 40) ∧ (u.1.toInt ≤ v12_keptMany.toInt)) (fun (u : Int32 × (Nat → Int32)) => [O12 a12 r12 v12_keptMany u.1 v12_sheets v12_holes v12_worms v12_laidMany v12_wanted v12_orderMany v12_firstOrder v12_lines v12_marks v12_dots v12_madeIn v12_bound v12_places v12_maps v12_tapeMany v12_stories v12_base v12_at v12_ends v12_fault v12_opened v12_bodies v12_ran v12_ownKind v12_ownNumber, (cI κ (r12 0) 55 u.2), (cI κ (r12 1) 40 f12_changeAt), (cI κ (r12 2) 40 f12_changeWas)]) [O12 a12 r12 v12_keptMany v12_done v12_sheets v12_holes v12_worms v12_laidMany v12_wanted v12_orderMany v12_firstOrder v12_lines v12_marks v12_dots v12_madeIn v12_bound v12_places v12_maps v12_tapeMany v12_stories v12_base v12_at v12_ends v12_fault v12_opened v12_bodies v12_ran v12_ownKind v12_ownNumber, (cI κ (r12 0) 55 f12_may), (cI κ (r12 1) 40 f12_changeAt), (cI κ (r12 2) 40 f12_changeWas)] sz) 0 0 (va_A [O12 a12 r12 v12_keptMany v12_done v12_sheets v12_holes v12_worms v12_laidMany v12_wanted v12_orderMany v12_firstOrder v12_lines v12_marks v12_dots v12_madeIn v12_bound v12_places v12_maps v12_tapeMany v12_stories v12_base v12_at v12_ends v12_fault v12_opened v12_bodies v12_ran v12_ownKind v12_ownNumber, (cI κ (r12 0) 55 f12_may), (cI κ (r12 1) 40 f12_changeAt), (cI κ (r12 2) 40 f12_changeWas)] sz) := by
  refine ofK_i (cc := cX12_undo) (maxL := 1) (own := RX12) (by decide) rfl rfl (Nat.le_of_ble_eq_true rfl) ?_
  intro p e s m args below meth c Q A ls hsz hx hb hml hts hown hK hA hAB hP hD hl ret
  have hS : va_S A s.heap s.heap [] := va_S.rf
  have hl : lv_has ls 1 [(0, .ref a12)] := hl
  have w0 := hts (.fieldLink RX12 127 "OlderSkinModel" "done" "I") (List.mem_of_getElem? (i := 1) rfl)
  have w1 := (fun w h => List.mem_cons_of_mem _ (List.mem_append_right _ h) : ∀ w ∈ u_ws RX12 TX12 63, w ∈ wsX12_undo)
  have w2 := hts (.fieldLink RX12 9 "OlderSkinModel" "may" "[I") (List.mem_of_getElem? (i := 2) rfl)
  have w3 := hts (.fieldLink RX12 13 "OlderSkinModel" "changeAt" "[I") (List.mem_of_getElem? (i := 3) rfl)
  have w4 := hts (.fieldLink RX12 16 "OlderSkinModel" "changeWas" "[I") (List.mem_of_getElem? (i := 4) rfl)
  have l0 : (0 : Int32).toInt = 0 := by decide
  have l1 : (1 : Int32).toInt = 1 := by decide
  have l2 : ((-5) : Int32).toInt = -5 := by decide
  have i1 : 0 ≤ v12_keptMany.toInt ∧ v12_keptMany.toInt ≤ 40 := i1
  have i2 : 0 ≤ v12_done.toInt ∧ v12_done.toInt ≤ 40 := i2
  refine lv_aload_n hx hb dX12_undo_0 rfl (lv_at hl 0 rfl) ?_
  refine va_get (D := D) (ci := 12) (v := .int v12_done) (C := RX12) (T := TX12) (N := 63) hx hb hts w1 hown hK.1 hP 0 rfl rfl 5 (by decide) w0 (fun _ h9 => h9) rfl dX12_undo_1 ?_
  refine lv_if_ne (tgt := 10) hx hb dX12_undo_4 (by decide) (fun c1 => ?_) (fun c1 => ?_)
  · have c1 := ci_ne c1
    refine lv_aload_n hx hb dX12_undo_10 rfl (lv_at hl 0 rfl) ?_
    refine lv_dup hx hb dX12_undo_11 rfl ?_
    refine va_get (D := D) (ci := 12) (v := .int v12_done) (C := RX12) (T := TX12) (N := 63) hx hb hts w1 hown hK.1 hP 0 rfl rfl 5 (by decide) w0 (fun _ h9 => h9) rfl dX12_undo_12 ?_
    refine lv_iconst (v := 1) hx hb dX12_undo_15 (by decide) ?_
    refine lv_isub hx hb dX12_undo_16 ?_
    refine lv_topi (fun x2 e3 => ?_)
    try have h4 : x2.toInt = v12_done.toInt - (1 : Int32).toInt := ci_sub e3 (by omega) (by omega)
    refine va_put (D := D) (ci := 12) (v := .int x2) (ty := .int) (C := RX12) (T := TX12) (N := 63) hx hb hts w1 tyX12 tyX12_ok nmX12 hown hK.1 hP hD hS 0 rfl rfl 5 (by decide) w0 (fun _ h9 => h9) rfl (by decide +kernel) rfl rfl (Nat.le_of_ble_eq_true rfl) dX12_undo_17 (fun H locs hP hD hS => ?_)
    obtain ⟨hP, hD⟩ : PD D A [O12 a12 r12 v12_keptMany x2 v12_sheets v12_holes v12_worms v12_laidMany v12_wanted v12_orderMany v12_firstOrder v12_lines v12_marks v12_dots v12_madeIn v12_bound v12_places v12_maps v12_tapeMany v12_stories v12_base v12_at v12_ends v12_fault v12_opened v12_bodies v12_ran v12_ownKind v12_ownNumber, (cI κ (r12 0) 55 f12_may), (cI κ (r12 1) 40 f12_changeAt), (cI κ (r12 2) 40 f12_changeWas)] H := ⟨hP, hD⟩
    have h5 : 0 ≤ x2.toInt ∧ x2.toInt ≤ 40 := by omega
    have h6 : x2.toInt ≤ v12_keptMany.toInt := by omega
    refine lv_aload_n hx hb dX12_undo_20 rfl (lv_at hl 0 rfl) ?_
    refine va_get (D := D) (ci := 12) (v := .ref (r12 0)) (C := RX12) (T := TX12) (N := 63) hx hb hts w1 hown hK.1 hP 0 rfl rfl 0 (by decide) w2 (fun _ h9 => h9) rfl dX12_undo_21 ?_
    refine lv_aload_n hx hb dX12_undo_24 rfl (lv_at hl 0 rfl) ?_
    refine va_get (D := D) (ci := 12) (v := .ref (r12 1)) (C := RX12) (T := TX12) (N := 63) hx hb hts w1 hown hK.1 hP 0 rfl rfl 1 (by decide) w3 (fun _ h9 => h9) rfl dX12_undo_25 ?_
    refine lv_aload_n hx hb dX12_undo_28 rfl (lv_at hl 0 rfl) ?_
    refine va_get (D := D) (ci := 12) (v := .int x2) (C := RX12) (T := TX12) (N := 63) hx hb hts w1 hown hK.1 hP 0 rfl rfl 5 (by decide) w0 (fun _ h9 => h9) rfl dX12_undo_29 ?_
    refine va_iald hx hb hK.1 hP 2 1 rfl rfl (i := x2) (ix (by omega) (by omega)) dX12_undo_32 ?_
    refine lv_topi (fun x7 e8 => ?_)
    have h9 : 0 ≤ x7.toInt ∧ x7.toInt ≤ 54 := by rw [e8]; exact hf12_changeAt _
    refine lv_aload_n hx hb dX12_undo_33 rfl (lv_at hl 0 rfl) ?_
    refine va_get (D := D) (ci := 12) (v := .ref (r12 2)) (C := RX12) (T := TX12) (N := 63) hx hb hts w1 hown hK.1 hP 0 rfl rfl 2 (by decide) w4 (fun _ h9 => h9) rfl dX12_undo_34 ?_
    refine lv_aload_n hx hb dX12_undo_37 rfl (lv_at hl 0 rfl) ?_
    refine va_get (D := D) (ci := 12) (v := .int x2) (C := RX12) (T := TX12) (N := 63) hx hb hts w1 hown hK.1 hP 0 rfl rfl 5 (by decide) w0 (fun _ h9 => h9) rfl dX12_undo_38 ?_
    refine va_iald hx hb hK.1 hP 3 1 rfl rfl (i := x2) (ix (by omega) (by omega)) dX12_undo_41 ?_
    refine lv_topi (fun x10 e11 => ?_)
    refine va_iast hx hb hK.1 hP hD hS 1 1 rfl rfl (i := x7) (ix (by omega) (by omega)) dX12_undo_42 (fun H locs hP hD hS => ?_)
    obtain ⟨g12, e13⟩ : ∃ y : Nat → Int32, y = upd f12_may x7.toNatClampNeg x10 := ⟨_, rfl⟩
    rw [← e13] at hP hD
    obtain ⟨hP, hD⟩ : PD D A [O12 a12 r12 v12_keptMany x2 v12_sheets v12_holes v12_worms v12_laidMany v12_wanted v12_orderMany v12_firstOrder v12_lines v12_marks v12_dots v12_madeIn v12_bound v12_places v12_maps v12_tapeMany v12_stories v12_base v12_at v12_ends v12_fault v12_opened v12_bodies v12_ran v12_ownKind v12_ownNumber, (cI κ (r12 0) 55 g12), (cI κ (r12 1) 40 f12_changeAt), (cI κ (r12 2) 40 f12_changeWas)] H := ⟨hP, hD⟩
    refine lv_aload_n hx hb dX12_undo_43 rfl (lv_at hl 0 rfl) ?_
    refine va_get (D := D) (ci := 12) (v := .int x2) (C := RX12) (T := TX12) (N := 63) hx hb hts w1 hown hK.1 hP 0 rfl rfl 5 (by decide) w0 (fun _ h9 => h9) rfl dX12_undo_44 ?_
    have hpo : (0 ≤ x2.toInt ∧ x2.toInt ≤ 40) ∧ (x2.toInt ≤ v12_keptMany.toInt) := ⟨h5, h6⟩
    exact ret _ _ _ _ x2 (x2, g12) dX12_undo_47 hpo hP hD hS
  have c1 := ci_eq c1
  refine lv_bipush (v := (-5)) hx hb dX12_undo_7 (by decide) ?_
  have hpo : (0 ≤ v12_done.toInt ∧ v12_done.toInt ≤ 40) ∧ (v12_done.toInt ≤ v12_keptMany.toInt) := ⟨i2, i17⟩
  exact ret _ _ _ _ (-5) (v12_done, f12_may) dX12_undo_9 hpo hP hD hS
set_option maxHeartbeats 4000000 in
set_option maxRecDepth 100000 in
theorem k_X12_redo (l : Launch) (D : va_G) (κ : Nat → ClassId) (β : Nat) (a12 : Nat) (r12 : Nat → Nat) (v12_keptMany : Int32) (v12_done : Int32) (v12_sheets : Int32) (v12_holes : Int32) (v12_worms : Int32) (v12_laidMany : Int32) (v12_wanted : Int32) (v12_orderMany : Int32) (v12_firstOrder : Int32) (v12_lines : Int32) (v12_marks : Int32) (v12_dots : Int32) (v12_madeIn : Int32) (v12_bound : Int32) (v12_places : Int32) (v12_maps : Int32) (v12_tapeMany : Int32) (v12_stories : Int32) (v12_base : Int32) (v12_at : Int32) (v12_ends : Int32) (v12_fault : Int32) (v12_opened : Int32) (v12_bodies : Int32) (v12_ran : Int32) (v12_ownKind : Int32) (v12_ownNumber : Int32) (f12_may : Nat → Int32) (f12_changeAt : Nat → Int32) (f12_changeIs : Nat → Int32) (sz : Nat) (i1 : Rg 0 40 v12_keptMany) (i2 : Rg 0 40 v12_done) (i3 : Rg 0 8 v12_sheets) (i4 : Rg 0 40 v12_holes) (i5 : Rg 0 40 v12_worms) (i6 : Rg 0 8 v12_laidMany) (i7 : Rg 0 8 v12_wanted) (i8 : Rg 0 20 v12_lines) (i9 : Rg 0 60 v12_marks) (i10 : Rg 0 40 v12_dots) (i11 : Rg 0 20 v12_places) (i12 : Rg 0 8 v12_maps) (i13 : Rg 0 120 v12_tapeMany) (i14 : Rg 0 6 v12_stories) (i15 : Rg 0 50 v12_bodies) (i16 : Rg 0 1000 v12_ran) (hf12_changeAt : ∀ j : Nat, 0 ≤ (f12_changeAt j).toInt ∧ (f12_changeAt j).toInt ≤ 54) (i17 : v12_done.toInt ≤ v12_keptMany.toInt) : Met l yX12_redo wsX12_redo ({ frames := 0, cells := 0, slots := 0, locals := 0 } : Room) (PcK D κ β [O12 a12 r12 v12_keptMany v12_done v12_sheets v12_holes v12_worms v12_laidMany v12_wanted v12_orderMany v12_firstOrder v12_lines v12_marks v12_dots v12_madeIn v12_bound v12_places v12_maps v12_tapeMany v12_stories v12_base v12_at v12_ends v12_fault v12_opened v12_bodies v12_ran v12_ownKind v12_ownNumber, (cI κ (r12 0) 55 f12_may), (cI κ (r12 1) 40 f12_changeAt), (cI κ (r12 3) 40 f12_changeIs)] sz [.ref a12]) (QiK D (fun (r : Int32) (u : Int32 × (Nat → Int32)) => (0 ≤ u.1.toInt ∧ u.1.toInt ≤ 40) ∧ (u.1.toInt ≤ v12_keptMany.toInt)) (fun (u : Int32 × (Nat → Int32)) => [O12 a12 r12 v12_keptMany u.1 v12_sheets v12_holes v12_worms v12_laidMany v12_wanted v12_orderMany v12_firstOrder v12_lines v12_marks v12_dots v12_madeIn v12_bound v12_places v12_maps v12_tapeMany v12_stories v12_base v12_at v12_ends v12_fault v12_opened v12_bodies v12_ran v12_ownKind v12_ownNumber, (cI κ (r12 0) 55 u.2), (cI κ (r12 1) 40 f12_changeAt), (cI κ (r12 3) 40 f12_changeIs)]) [O12 a12 r12 v12_keptMany v12_done v12_sheets v12_holes v12_worms v12_laidMany v12_wanted v12_orderMany v12_firstOrder v12_lines v12_marks v12_dots v12_madeIn v12_bound v12_places v12_maps v12_tapeMany v12_stories v12_base v12_at v12_ends v12_fault v12_opened v12_bodies v12_ran v12_ownKind v12_ownNumber, (cI κ (r12 0) 55 f12_may), (cI κ (r12 1) 40 f12_changeAt), (cI κ (r12 3) 40 f12_changeIs)] sz) 0 0 (va_A [O12 a12 r12 v12_keptMany v12_done v12_sheets v12_holes v12_worms v12_laidMany v12_wanted v12_orderMany v12_firstOrder v12_lines v12_marks v12_dots v12_madeIn v12_bound v12_places v12_maps v12_tapeMany v12_stories v12_base v12_at v12_ends v12_fault v12_opened v12_bodies v12_ran v12_ownKind v12_ownNumber, (cI κ (r12 0) 55 f12_may), (cI κ (r12 1) 40 f12_changeAt), (cI κ (r12 3) 40 f12_changeIs)] sz) := by
  refine ofK_i (cc := cX12_redo) (maxL := 1) (own := RX12) (by decide) rfl rfl (Nat.le_of_ble_eq_true rfl) ?_
  intro p e s m args below meth c Q A ls hsz hx hb hml hts hown hK hA hAB hP hD hl ret
  have hS : va_S A s.heap s.heap [] := va_S.rf
  have hl : lv_has ls 1 [(0, .ref a12)] := hl
  have w0 := hts (.fieldLink RX12 127 "OlderSkinModel" "done" "I") (List.mem_of_getElem? (i := 1) rfl)
  have w1 := (fun w h => List.mem_cons_of_mem _ (List.mem_append_right _ h) : ∀ w ∈ u_ws RX12 TX12 63, w ∈ wsX12_redo)
  have w2 := hts (.fieldLink RX12 130 "OlderSkinModel" "keptMany" "I") (List.mem_of_getElem? (i := 2) rfl)
  have w3 := hts (.fieldLink RX12 9 "OlderSkinModel" "may" "[I") (List.mem_of_getElem? (i := 3) rfl)
  have w4 := hts (.fieldLink RX12 13 "OlderSkinModel" "changeAt" "[I") (List.mem_of_getElem? (i := 4) rfl)
  have w5 := hts (.fieldLink RX12 19 "OlderSkinModel" "changeIs" "[I") (List.mem_of_getElem? (i := 5) rfl)
  have l0 : (0 : Int32).toInt = 0 := by decide
  have l1 : (1 : Int32).toInt = 1 := by decide
  have l2 : ((-5) : Int32).toInt = -5 := by decide
  have i1 : 0 ≤ v12_keptMany.toInt ∧ v12_keptMany.toInt ≤ 40 := i1
  have i2 : 0 ≤ v12_done.toInt ∧ v12_done.toInt ≤ 40 := i2
  refine lv_aload_n hx hb dX12_redo_0 rfl (lv_at hl 0 rfl) ?_
  refine va_get (D := D) (ci := 12) (v := .int v12_done) (C := RX12) (T := TX12) (N := 63) hx hb hts w1 hown hK.1 hP 0 rfl rfl 5 (by decide) w0 (fun _ h9 => h9) rfl dX12_redo_1 ?_
  refine lv_aload_n hx hb dX12_redo_4 rfl (lv_at hl 0 rfl) ?_
  refine va_get (D := D) (ci := 12) (v := .int v12_keptMany) (C := RX12) (T := TX12) (N := 63) hx hb hts w1 hown hK.1 hP 0 rfl rfl 4 (by decide) w2 (fun _ h9 => h9) rfl dX12_redo_5 ?_
  refine lv_icmp_ne (tgt := 14) hx hb dX12_redo_8 (by decide) (fun c1 => ?_) (fun c1 => ?_)
  · have c1 := ci_ne c1
    refine lv_aload_n hx hb dX12_redo_14 rfl (lv_at hl 0 rfl) ?_
    refine va_get (D := D) (ci := 12) (v := .ref (r12 0)) (C := RX12) (T := TX12) (N := 63) hx hb hts w1 hown hK.1 hP 0 rfl rfl 0 (by decide) w3 (fun _ h9 => h9) rfl dX12_redo_15 ?_
    refine lv_aload_n hx hb dX12_redo_18 rfl (lv_at hl 0 rfl) ?_
    refine va_get (D := D) (ci := 12) (v := .ref (r12 1)) (C := RX12) (T := TX12) (N := 63) hx hb hts w1 hown hK.1 hP 0 rfl rfl 1 (by decide) w4 (fun _ h9 => h9) rfl dX12_redo_19 ?_
    refine lv_aload_n hx hb dX12_redo_22 rfl (lv_at hl 0 rfl) ?_
    refine va_get (D := D) (ci := 12) (v := .int v12_done) (C := RX12) (T := TX12) (N := 63) hx hb hts w1 hown hK.1 hP 0 rfl rfl 5 (by decide) w0 (fun _ h9 => h9) rfl dX12_redo_23 ?_
    refine va_iald hx hb hK.1 hP 2 1 rfl rfl (i := v12_done) (ix (by omega) (by omega)) dX12_redo_26 ?_
    refine lv_topi (fun x2 e3 => ?_)
    have h4 : 0 ≤ x2.toInt ∧ x2.toInt ≤ 54 := by rw [e3]; exact hf12_changeAt _
    refine lv_aload_n hx hb dX12_redo_27 rfl (lv_at hl 0 rfl) ?_
    refine va_get (D := D) (ci := 12) (v := .ref (r12 3)) (C := RX12) (T := TX12) (N := 63) hx hb hts w1 hown hK.1 hP 0 rfl rfl 3 (by decide) w5 (fun _ h9 => h9) rfl dX12_redo_28 ?_
    refine lv_aload_n hx hb dX12_redo_31 rfl (lv_at hl 0 rfl) ?_
    refine va_get (D := D) (ci := 12) (v := .int v12_done) (C := RX12) (T := TX12) (N := 63) hx hb hts w1 hown hK.1 hP 0 rfl rfl 5 (by decide) w0 (fun _ h9 => h9) rfl dX12_redo_32 ?_
    refine va_iald hx hb hK.1 hP 3 1 rfl rfl (i := v12_done) (ix (by omega) (by omega)) dX12_redo_35 ?_
    refine lv_topi (fun x5 e6 => ?_)
    refine va_iast hx hb hK.1 hP hD hS 1 1 rfl rfl (i := x2) (ix (by omega) (by omega)) dX12_redo_36 (fun H locs hP hD hS => ?_)
    obtain ⟨g7, e8⟩ : ∃ y : Nat → Int32, y = upd f12_may x2.toNatClampNeg x5 := ⟨_, rfl⟩
    rw [← e8] at hP hD
    obtain ⟨hP, hD⟩ : PD D A [O12 a12 r12 v12_keptMany v12_done v12_sheets v12_holes v12_worms v12_laidMany v12_wanted v12_orderMany v12_firstOrder v12_lines v12_marks v12_dots v12_madeIn v12_bound v12_places v12_maps v12_tapeMany v12_stories v12_base v12_at v12_ends v12_fault v12_opened v12_bodies v12_ran v12_ownKind v12_ownNumber, (cI κ (r12 0) 55 g7), (cI κ (r12 1) 40 f12_changeAt), (cI κ (r12 3) 40 f12_changeIs)] H := ⟨hP, hD⟩
    refine lv_aload_n hx hb dX12_redo_37 rfl (lv_at hl 0 rfl) ?_
    refine lv_dup hx hb dX12_redo_38 rfl ?_
    refine va_get (D := D) (ci := 12) (v := .int v12_done) (C := RX12) (T := TX12) (N := 63) hx hb hts w1 hown hK.1 hP 0 rfl rfl 5 (by decide) w0 (fun _ h9 => h9) rfl dX12_redo_39 ?_
    refine lv_iconst (v := 1) hx hb dX12_redo_42 (by decide) ?_
    refine lv_iadd hx hb dX12_redo_43 ?_
    refine lv_topi (fun x9 e10 => ?_)
    try have h11 : x9.toInt = v12_done.toInt + (1 : Int32).toInt := ci_add e10 (by omega) (by omega)
    refine va_put (D := D) (ci := 12) (v := .int x9) (ty := .int) (C := RX12) (T := TX12) (N := 63) hx hb hts w1 tyX12 tyX12_ok nmX12 hown hK.1 hP hD hS 0 rfl rfl 5 (by decide) w0 (fun _ h9 => h9) rfl (by decide +kernel) rfl rfl (Nat.le_of_ble_eq_true rfl) dX12_redo_44 (fun H locs hP hD hS => ?_)
    obtain ⟨hP, hD⟩ : PD D A [O12 a12 r12 v12_keptMany x9 v12_sheets v12_holes v12_worms v12_laidMany v12_wanted v12_orderMany v12_firstOrder v12_lines v12_marks v12_dots v12_madeIn v12_bound v12_places v12_maps v12_tapeMany v12_stories v12_base v12_at v12_ends v12_fault v12_opened v12_bodies v12_ran v12_ownKind v12_ownNumber, (cI κ (r12 0) 55 g7), (cI κ (r12 1) 40 f12_changeAt), (cI κ (r12 3) 40 f12_changeIs)] H := ⟨hP, hD⟩
    have h12 : 0 ≤ x9.toInt ∧ x9.toInt ≤ 40 := by omega
    have h13 : x9.toInt ≤ v12_keptMany.toInt := by omega
    refine lv_aload_n hx hb dX12_redo_47 rfl (lv_at hl 0 rfl) ?_
    refine va_get (D := D) (ci := 12) (v := .int v12_keptMany) (C := RX12) (T := TX12) (N := 63) hx hb hts w1 hown hK.1 hP 0 rfl rfl 4 (by decide) w2 (fun _ h9 => h9) rfl dX12_redo_48 ?_
    refine lv_aload_n hx hb dX12_redo_51 rfl (lv_at hl 0 rfl) ?_
    refine va_get (D := D) (ci := 12) (v := .int x9) (C := RX12) (T := TX12) (N := 63) hx hb hts w1 hown hK.1 hP 0 rfl rfl 5 (by decide) w0 (fun _ h9 => h9) rfl dX12_redo_52 ?_
    refine lv_isub hx hb dX12_redo_55 ?_
    refine lv_topi (fun x14 e15 => ?_)
    try have h16 : x14.toInt = v12_keptMany.toInt - x9.toInt := ci_sub e15 (by omega) (by omega)
    have hpo : (0 ≤ x9.toInt ∧ x9.toInt ≤ 40) ∧ (x9.toInt ≤ v12_keptMany.toInt) := ⟨h12, h13⟩
    exact ret _ _ _ _ x14 (x9, g7) dX12_redo_56 hpo hP hD hS
  have c1 := ci_eq c1
  refine lv_bipush (v := (-5)) hx hb dX12_redo_11 (by decide) ?_
  have hpo : (0 ≤ v12_done.toInt ∧ v12_done.toInt ≤ 40) ∧ (v12_done.toInt ≤ v12_keptMany.toInt) := ⟨i2, i17⟩
  exact ret _ _ _ _ (-5) (v12_done, f12_may) dX12_redo_13 hpo hP hD hS
set_option maxHeartbeats 4000000 in
set_option maxRecDepth 100000 in
theorem k_X12_age (l : Launch) (D : va_G) (κ : Nat → ClassId) (β : Nat) (a12 : Nat) (r12 : Nat → Nat) (v12_keptMany : Int32) (v12_done : Int32) (v12_sheets : Int32) (v12_holes : Int32) (v12_worms : Int32) (v12_laidMany : Int32) (v12_wanted : Int32) (v12_orderMany : Int32) (v12_firstOrder : Int32) (v12_lines : Int32) (v12_marks : Int32) (v12_dots : Int32) (v12_madeIn : Int32) (v12_bound : Int32) (v12_places : Int32) (v12_maps : Int32) (v12_tapeMany : Int32) (v12_stories : Int32) (v12_base : Int32) (v12_at : Int32) (v12_ends : Int32) (v12_fault : Int32) (v12_opened : Int32) (v12_bodies : Int32) (v12_ran : Int32) (v12_ownKind : Int32) (v12_ownNumber : Int32) (f12_may : Nat → Int32) (f12_changeAt : Nat → Int32) (f12_changeWas : Nat → Int32) (f12_changeIs : Nat → Int32) (sz : Nat) (p1 : Int32) (p2 : Int32) (i1 : Rg 0 40 v12_keptMany) (i2 : Rg 0 40 v12_done) (i3 : Rg 0 8 v12_sheets) (i4 : Rg 0 40 v12_holes) (i5 : Rg 0 40 v12_worms) (i6 : Rg 0 8 v12_laidMany) (i7 : Rg 0 8 v12_wanted) (i8 : Rg 0 20 v12_lines) (i9 : Rg 0 60 v12_marks) (i10 : Rg 0 40 v12_dots) (i11 : Rg 0 20 v12_places) (i12 : Rg 0 8 v12_maps) (i13 : Rg 0 120 v12_tapeMany) (i14 : Rg 0 6 v12_stories) (i15 : Rg 0 50 v12_bodies) (i16 : Rg 0 1000 v12_ran) (hf12_changeAt : ∀ j : Nat, 0 ≤ (f12_changeAt j).toInt ∧ (f12_changeAt j).toInt ≤ 54) (i17 : v12_done.toInt ≤ v12_keptMany.toInt) : Met l yX12_age wsX12_age ({ frames := 2, cells := 0, slots := 0, locals := 46 } : Room) (PcK D κ β [O12 a12 r12 v12_keptMany v12_done v12_sheets v12_holes v12_worms v12_laidMany v12_wanted v12_orderMany v12_firstOrder v12_lines v12_marks v12_dots v12_madeIn v12_bound v12_places v12_maps v12_tapeMany v12_stories v12_base v12_at v12_ends v12_fault v12_opened v12_bodies v12_ran v12_ownKind v12_ownNumber, (cI κ (r12 0) 55 f12_may), (cI κ (r12 1) 40 f12_changeAt), (cI κ (r12 2) 40 f12_changeWas), (cI κ (r12 3) 40 f12_changeIs)] sz [.ref a12, .int p1, .int p2]) (QiK D (fun (r : Int32) (u : Int32 × Int32 × (Nat → Int32) × (Nat → Int32) × (Nat → Int32) × (Nat → Int32)) => (0 ≤ u.1.toInt ∧ u.1.toInt ≤ 40) ∧ (0 ≤ u.2.1.toInt ∧ u.2.1.toInt ≤ 40) ∧ (∀ j : Nat, 0 ≤ (u.2.2.2.1 j).toInt ∧ (u.2.2.2.1 j).toInt ≤ 54) ∧ (u.2.1.toInt ≤ u.1.toInt)) (fun (u : Int32 × Int32 × (Nat → Int32) × (Nat → Int32) × (Nat → Int32) × (Nat → Int32)) => [O12 a12 r12 u.1 u.2.1 v12_sheets v12_holes v12_worms v12_laidMany v12_wanted v12_orderMany v12_firstOrder v12_lines v12_marks v12_dots v12_madeIn v12_bound v12_places v12_maps v12_tapeMany v12_stories v12_base v12_at v12_ends v12_fault v12_opened v12_bodies v12_ran v12_ownKind v12_ownNumber, (cI κ (r12 0) 55 u.2.2.1), (cI κ (r12 1) 40 u.2.2.2.1), (cI κ (r12 2) 40 u.2.2.2.2.1), (cI κ (r12 3) 40 u.2.2.2.2.2)]) [O12 a12 r12 v12_keptMany v12_done v12_sheets v12_holes v12_worms v12_laidMany v12_wanted v12_orderMany v12_firstOrder v12_lines v12_marks v12_dots v12_madeIn v12_bound v12_places v12_maps v12_tapeMany v12_stories v12_base v12_at v12_ends v12_fault v12_opened v12_bodies v12_ran v12_ownKind v12_ownNumber, (cI κ (r12 0) 55 f12_may), (cI κ (r12 1) 40 f12_changeAt), (cI κ (r12 2) 40 f12_changeWas), (cI κ (r12 3) 40 f12_changeIs)] sz) 0 0 (va_A [O12 a12 r12 v12_keptMany v12_done v12_sheets v12_holes v12_worms v12_laidMany v12_wanted v12_orderMany v12_firstOrder v12_lines v12_marks v12_dots v12_madeIn v12_bound v12_places v12_maps v12_tapeMany v12_stories v12_base v12_at v12_ends v12_fault v12_opened v12_bodies v12_ran v12_ownKind v12_ownNumber, (cI κ (r12 0) 55 f12_may), (cI κ (r12 1) 40 f12_changeAt), (cI κ (r12 2) 40 f12_changeWas), (cI κ (r12 3) 40 f12_changeIs)] sz) := by
  refine ofK_i (cc := cX12_age) (maxL := 3) (own := RX12) (by decide) rfl rfl (Nat.le_of_ble_eq_true rfl) ?_
  intro p e s m args below meth c Q A ls hsz hx hb hml hts hown hK hA hAB hP hD hl ret
  have hS : va_S A s.heap s.heap [] := va_S.rf
  have hl : lv_has ls 3 [(0, .ref a12), (1, .int p1), (2, .int p2)] := hl
  have l0 : (0 : Int32).toInt = 0 := by decide
  have l1 : ((-1) : Int32).toInt = -1 := by decide
  have l2 : (47 : Int32).toInt = 47 := by decide
  have i3 : 0 ≤ v12_sheets.toInt ∧ v12_sheets.toInt ≤ 8 := i3
  refine lv_aload_n hx hb dX12_age_0 rfl (lv_at hl 0 rfl) ?_
  refine lv_iload_n hx hb dX12_age_1 rfl (lv_at hl 1 rfl) ?_
  refine kcm_i hA hAB hP hD hS [true, false, false, false, false] rfl (fun _ => rfl) (fun hPc hDc => va_runV (As := [.int p1]) (rest := []) ⟨hx, hb, hml, hown, hts⟩ (k_X12_isSheet l D κ β a12 r12 v12_keptMany v12_done v12_sheets v12_holes v12_worms v12_laidMany v12_wanted v12_orderMany v12_firstOrder v12_lines v12_marks v12_dots v12_madeIn v12_bound v12_places v12_maps v12_tapeMany v12_stories v12_base v12_at v12_ends v12_fault v12_opened v12_bodies v12_ran v12_ownKind v12_ownNumber s.heap.size p1 i1 i2 i3 i4 i5 i6 i7 i8 i9 i10 i11 i12 i13 i14 i15 i16 i17) (cwV 1 hts gX12_age_X12_isSheet rfl rfl rfl (by decide +kernel) ⟨Nat.le_of_ble_eq_true rfl, Nat.le_of_ble_eq_true rfl⟩) (pk_V hK hS hAB hPc hDc 0 (ci := 12) rfl rfl rfl) rfl rfl hl.1 rfl (lv_room (Nat.le_of_ble_eq_true rfl)) dX12_age_2 ⟨Nat.le_of_ble_eq_true rfl, Nat.le_of_ble_eq_true rfl⟩) (fun x1 u2 H locs hw hPD hS => ?_)
  have h3 : (x1.toInt = 1 ∧ 0 ≤ p1.toInt ∧ p1.toInt < v12_sheets.toInt) ∨ (x1.toInt = 0 ∧ (p1.toInt < 0 ∨ v12_sheets.toInt ≤ p1.toInt)) := hw
  obtain ⟨hP, hD⟩ : PD D A [O12 a12 r12 v12_keptMany v12_done v12_sheets v12_holes v12_worms v12_laidMany v12_wanted v12_orderMany v12_firstOrder v12_lines v12_marks v12_dots v12_madeIn v12_bound v12_places v12_maps v12_tapeMany v12_stories v12_base v12_at v12_ends v12_fault v12_opened v12_bodies v12_ran v12_ownKind v12_ownNumber, (cI κ (r12 0) 55 f12_may), (cI κ (r12 1) 40 f12_changeAt), (cI κ (r12 2) 40 f12_changeWas), (cI κ (r12 3) 40 f12_changeIs)] H := hPD
  refine lv_if_eq (tgt := 27) hx hb dX12_age_5 (by decide) (fun c4 => ?_) (fun c4 => ?_)
  · have c4 := ci_eq c4
    refine lv_iconst (v := (-1)) hx hb dX12_age_27 (by decide) ?_
    have hpo : (0 ≤ v12_keptMany.toInt ∧ v12_keptMany.toInt ≤ 40) ∧ (0 ≤ v12_done.toInt ∧ v12_done.toInt ≤ 40) ∧ (∀ j : Nat, 0 ≤ (f12_changeAt j).toInt ∧ (f12_changeAt j).toInt ≤ 54) ∧ (v12_done.toInt ≤ v12_keptMany.toInt) := ⟨i1, i2, hf12_changeAt, i17⟩
    exact ret _ _ _ _ (-1) (v12_keptMany, v12_done, f12_may, f12_changeAt, f12_changeWas, f12_changeIs) dX12_age_28 hpo hP hD hS
  have c4 := ci_ne c4
  refine lv_iload_n hx hb dX12_age_8 rfl (lv_at hl 2 rfl) ?_
  refine kcm_i hA hAB hP hD hS [false, false, false, false, false] rfl (fun _ => rfl) (fun hPc hDc => va_runS (As := [.int p2]) (rest := []) ⟨hx, hb, hml, hown, hts⟩ (k_X12_isYear l D κ β H.size p2) (va_cwS 1 hts gX12_age_X12_isYear rfl rfl rfl (by decide +kernel) ⟨Nat.le_of_ble_eq_true rfl, Nat.le_of_ble_eq_true rfl⟩) (pk_S hK hS hAB hPc hDc) rfl rfl hl.1 rfl (lv_room (Nat.le_of_ble_eq_true rfl)) dX12_age_9 ⟨Nat.le_of_ble_eq_true rfl, Nat.le_of_ble_eq_true rfl⟩) (fun x5 u6 H locs hw hPD hS => ?_)
  have h7 : (x5.toInt = 1 ∧ 0 ≤ p2.toInt ∧ p2.toInt ≤ 2000) ∨ (x5.toInt = 0 ∧ (p2.toInt < 0 ∨ 2000 < p2.toInt)) := hw
  obtain ⟨hP, hD⟩ : PD D A [O12 a12 r12 v12_keptMany v12_done v12_sheets v12_holes v12_worms v12_laidMany v12_wanted v12_orderMany v12_firstOrder v12_lines v12_marks v12_dots v12_madeIn v12_bound v12_places v12_maps v12_tapeMany v12_stories v12_base v12_at v12_ends v12_fault v12_opened v12_bodies v12_ran v12_ownKind v12_ownNumber, (cI κ (r12 0) 55 f12_may), (cI κ (r12 1) 40 f12_changeAt), (cI κ (r12 2) 40 f12_changeWas), (cI κ (r12 3) 40 f12_changeIs)] H := hPD
  refine lv_if_eq (tgt := 27) hx hb dX12_age_12 (by decide) (fun c8 => ?_) (fun c8 => ?_)
  · have c8 := ci_eq c8
    refine lv_iconst (v := (-1)) hx hb dX12_age_27 (by decide) ?_
    have hpo : (0 ≤ v12_keptMany.toInt ∧ v12_keptMany.toInt ≤ 40) ∧ (0 ≤ v12_done.toInt ∧ v12_done.toInt ≤ 40) ∧ (∀ j : Nat, 0 ≤ (f12_changeAt j).toInt ∧ (f12_changeAt j).toInt ≤ 54) ∧ (v12_done.toInt ≤ v12_keptMany.toInt) := ⟨i1, i2, hf12_changeAt, i17⟩
    exact ret _ _ _ _ (-1) (v12_keptMany, v12_done, f12_may, f12_changeAt, f12_changeWas, f12_changeIs) dX12_age_28 hpo hP hD hS
  have c8 := ci_ne c8
  refine lv_aload_n hx hb dX12_age_15 rfl (lv_at hl 0 rfl) ?_
  refine lv_bipush (v := 47) hx hb dX12_age_16 (by decide) ?_
  refine lv_iload_n hx hb dX12_age_18 rfl (lv_at hl 1 rfl) ?_
  refine lv_iadd hx hb dX12_age_19 ?_
  refine lv_topi (fun x9 e10 => ?_)
  try have h11 : x9.toInt = (47 : Int32).toInt + p1.toInt := ci_add e10 (by omega) (by omega)
  refine lv_iload_n hx hb dX12_age_20 rfl (lv_at hl 2 rfl) ?_
  refine kcm_i hA hAB hP hD hS [true, true, true, true, true] rfl (fun _ => rfl) (fun hPc hDc => va_runV (As := [.int x9, .int p2]) (rest := []) ⟨hx, hb, hml, hown, hts⟩ (k_X12_becomes l D κ β a12 r12 v12_keptMany v12_done v12_sheets v12_holes v12_worms v12_laidMany v12_wanted v12_orderMany v12_firstOrder v12_lines v12_marks v12_dots v12_madeIn v12_bound v12_places v12_maps v12_tapeMany v12_stories v12_base v12_at v12_ends v12_fault v12_opened v12_bodies v12_ran v12_ownKind v12_ownNumber f12_may f12_changeAt f12_changeWas f12_changeIs H.size x9 p2 i1 i2 i3 i4 i5 i6 i7 i8 i9 i10 i11 i12 i13 i14 i15 i16 hf12_changeAt i17 (by omega)) (cwV 2 hts gX12_age_X12_becomes rfl rfl rfl (by decide +kernel) ⟨Nat.le_of_ble_eq_true rfl, Nat.le_of_ble_eq_true rfl⟩) (pk_V hK hS hAB hPc hDc 0 (ci := 12) rfl rfl rfl) rfl rfl hl.1 rfl (lv_room (Nat.le_of_ble_eq_true rfl)) dX12_age_21 ⟨Nat.le_of_ble_eq_true rfl, Nat.le_of_ble_eq_true rfl⟩) (fun x18 u19 H locs hw hPD hS => ?_)
  obtain ⟨x12, x13, g14, g15, g16, g17⟩ := u19
  obtain ⟨h20, h21, h22, h23⟩ : (Rg 0 40 x12) ∧ (Rg 0 40 x13) ∧ (∀ j : Nat, 0 ≤ (g15 j).toInt ∧ (g15 j).toInt ≤ 54) ∧ (x13.toInt ≤ x12.toInt) := hw
  obtain ⟨hP, hD⟩ : PD D A [O12 a12 r12 x12 x13 v12_sheets v12_holes v12_worms v12_laidMany v12_wanted v12_orderMany v12_firstOrder v12_lines v12_marks v12_dots v12_madeIn v12_bound v12_places v12_maps v12_tapeMany v12_stories v12_base v12_at v12_ends v12_fault v12_opened v12_bodies v12_ran v12_ownKind v12_ownNumber, (cI κ (r12 0) 55 g14), (cI κ (r12 1) 40 g15), (cI κ (r12 2) 40 g16), (cI κ (r12 3) 40 g17)] H := hPD
  refine lv_goto (tgt := 28) hx hb dX12_age_24 (by decide) ?_
  have hpo : (0 ≤ x12.toInt ∧ x12.toInt ≤ 40) ∧ (0 ≤ x13.toInt ∧ x13.toInt ≤ 40) ∧ (∀ j : Nat, 0 ≤ (g15 j).toInt ∧ (g15 j).toInt ≤ 54) ∧ (x13.toInt ≤ x12.toInt) := ⟨h20, h21, h22, h23⟩
  exact ret _ _ _ _ x18 (x12, x13, g14, g15, g16, g17) dX12_age_28 hpo hP hD hS
set_option maxHeartbeats 4000000 in
set_option maxRecDepth 100000 in
theorem k_X12_hole (l : Launch) (D : va_G) (κ : Nat → ClassId) (β : Nat) (a12 : Nat) (r12 : Nat → Nat) (v12_keptMany : Int32) (v12_done : Int32) (v12_sheets : Int32) (v12_holes : Int32) (v12_worms : Int32) (v12_laidMany : Int32) (v12_wanted : Int32) (v12_orderMany : Int32) (v12_firstOrder : Int32) (v12_lines : Int32) (v12_marks : Int32) (v12_dots : Int32) (v12_madeIn : Int32) (v12_bound : Int32) (v12_places : Int32) (v12_maps : Int32) (v12_tapeMany : Int32) (v12_stories : Int32) (v12_base : Int32) (v12_at : Int32) (v12_ends : Int32) (v12_fault : Int32) (v12_opened : Int32) (v12_bodies : Int32) (v12_ran : Int32) (v12_ownKind : Int32) (v12_ownNumber : Int32) (f12_sheetOf : Nat → Int32) (f12_placeOf : Nat → Int32) (sz : Nat) (p1 : Int32) (p2 : Int32) (i1 : Rg 0 40 v12_keptMany) (i2 : Rg 0 40 v12_done) (i3 : Rg 0 8 v12_sheets) (i4 : Rg 0 40 v12_holes) (i5 : Rg 0 40 v12_worms) (i6 : Rg 0 8 v12_laidMany) (i7 : Rg 0 8 v12_wanted) (i8 : Rg 0 20 v12_lines) (i9 : Rg 0 60 v12_marks) (i10 : Rg 0 40 v12_dots) (i11 : Rg 0 20 v12_places) (i12 : Rg 0 8 v12_maps) (i13 : Rg 0 120 v12_tapeMany) (i14 : Rg 0 6 v12_stories) (i15 : Rg 0 50 v12_bodies) (i16 : Rg 0 1000 v12_ran) (i17 : v12_done.toInt ≤ v12_keptMany.toInt) : Met l yX12_hole wsX12_hole ({ frames := 2, cells := 0, slots := 0, locals := 46 } : Room) (PcK D κ β [O12 a12 r12 v12_keptMany v12_done v12_sheets v12_holes v12_worms v12_laidMany v12_wanted v12_orderMany v12_firstOrder v12_lines v12_marks v12_dots v12_madeIn v12_bound v12_places v12_maps v12_tapeMany v12_stories v12_base v12_at v12_ends v12_fault v12_opened v12_bodies v12_ran v12_ownKind v12_ownNumber, (cI κ (r12 8) 40 f12_sheetOf), (cI κ (r12 9) 40 f12_placeOf)] sz [.ref a12, .int p1, .int p2]) (QiK D (fun (r : Int32) (u : Int32 × (Nat → Int32) × (Nat → Int32)) => (0 ≤ u.1.toInt ∧ u.1.toInt ≤ 40) ∧ ((¬ (0 ≤ p1.toInt ∧ p1.toInt < v12_sheets.toInt ∧ 0 ≤ p2.toInt ∧ p2.toInt ≤ 999) ∧ r.toInt = -1 ∧ u.1.toInt = v12_holes.toInt) ∨ ((0 ≤ p1.toInt ∧ p1.toInt < v12_sheets.toInt ∧ 0 ≤ p2.toInt ∧ p2.toInt ≤ 999) ∧ v12_holes.toInt = 40 ∧ r.toInt = -3 ∧ u.1.toInt = v12_holes.toInt) ∨ ((0 ≤ p1.toInt ∧ p1.toInt < v12_sheets.toInt ∧ 0 ≤ p2.toInt ∧ p2.toInt ≤ 999) ∧ v12_holes.toInt < 40 ∧ r.toInt = v12_holes.toInt ∧ u.1.toInt = v12_holes.toInt + 1))) (fun (u : Int32 × (Nat → Int32) × (Nat → Int32)) => [O12 a12 r12 v12_keptMany v12_done v12_sheets u.1 v12_worms v12_laidMany v12_wanted v12_orderMany v12_firstOrder v12_lines v12_marks v12_dots v12_madeIn v12_bound v12_places v12_maps v12_tapeMany v12_stories v12_base v12_at v12_ends v12_fault v12_opened v12_bodies v12_ran v12_ownKind v12_ownNumber, (cI κ (r12 8) 40 u.2.1), (cI κ (r12 9) 40 u.2.2)]) [O12 a12 r12 v12_keptMany v12_done v12_sheets v12_holes v12_worms v12_laidMany v12_wanted v12_orderMany v12_firstOrder v12_lines v12_marks v12_dots v12_madeIn v12_bound v12_places v12_maps v12_tapeMany v12_stories v12_base v12_at v12_ends v12_fault v12_opened v12_bodies v12_ran v12_ownKind v12_ownNumber, (cI κ (r12 8) 40 f12_sheetOf), (cI κ (r12 9) 40 f12_placeOf)] sz) 0 0 (va_A [O12 a12 r12 v12_keptMany v12_done v12_sheets v12_holes v12_worms v12_laidMany v12_wanted v12_orderMany v12_firstOrder v12_lines v12_marks v12_dots v12_madeIn v12_bound v12_places v12_maps v12_tapeMany v12_stories v12_base v12_at v12_ends v12_fault v12_opened v12_bodies v12_ran v12_ownKind v12_ownNumber, (cI κ (r12 8) 40 f12_sheetOf), (cI κ (r12 9) 40 f12_placeOf)] sz) := by
  refine ofK_i (cc := cX12_hole) (maxL := 3) (own := RX12) (by decide) rfl rfl (Nat.le_of_ble_eq_true rfl) ?_
  intro p e s m args below meth c Q A ls hsz hx hb hml hts hown hK hA hAB hP hD hl ret
  have hS : va_S A s.heap s.heap [] := va_S.rf
  have hl : lv_has ls 3 [(0, .ref a12), (1, .int p1), (2, .int p2)] := hl
  have w0 := hts (.constantLong RX12 158 (999)) (List.mem_of_getElem? (i := 1) rfl)
  have w1 := hts (.fieldLink RX12 140 "OlderSkinModel" "holes" "I") (List.mem_of_getElem? (i := 2) rfl)
  have w2 := (fun w h => List.mem_cons_of_mem _ (List.mem_append_right _ h) : ∀ w ∈ u_ws RX12 TX12 63, w ∈ wsX12_hole)
  have w3 := hts (.fieldLink RX12 22 "OlderSkinModel" "sheetOf" "[I") (List.mem_of_getElem? (i := 3) rfl)
  have w4 := hts (.fieldLink RX12 25 "OlderSkinModel" "placeOf" "[I") (List.mem_of_getElem? (i := 4) rfl)
  have l0 : (0 : Int32).toInt = 0 := by decide
  have l1 : ((-1) : Int32).toInt = -1 := by decide
  have l2 : (0 : Int64).toInt = 0 := by decide
  have l3 : (999 : Int64).toInt = 999 := by decide
  have l4 : (40 : Int32).toInt = 40 := by decide
  have l5 : (1 : Int32).toInt = 1 := by decide
  have l6 : ((-3) : Int32).toInt = -3 := by decide
  have i3 : 0 ≤ v12_sheets.toInt ∧ v12_sheets.toInt ≤ 8 := i3
  have i4 : 0 ≤ v12_holes.toInt ∧ v12_holes.toInt ≤ 40 := i4
  refine lv_aload_n hx hb dX12_hole_0 rfl (lv_at hl 0 rfl) ?_
  refine lv_iload_n hx hb dX12_hole_1 rfl (lv_at hl 1 rfl) ?_
  refine kcm_i hA hAB hP hD hS [true, false, false] rfl (fun _ => rfl) (fun hPc hDc => va_runV (As := [.int p1]) (rest := []) ⟨hx, hb, hml, hown, hts⟩ (k_X12_isSheet l D κ β a12 r12 v12_keptMany v12_done v12_sheets v12_holes v12_worms v12_laidMany v12_wanted v12_orderMany v12_firstOrder v12_lines v12_marks v12_dots v12_madeIn v12_bound v12_places v12_maps v12_tapeMany v12_stories v12_base v12_at v12_ends v12_fault v12_opened v12_bodies v12_ran v12_ownKind v12_ownNumber s.heap.size p1 i1 i2 i3 i4 i5 i6 i7 i8 i9 i10 i11 i12 i13 i14 i15 i16 i17) (cwV 1 hts gX12_hole_X12_isSheet rfl rfl rfl (by decide +kernel) ⟨Nat.le_of_ble_eq_true rfl, Nat.le_of_ble_eq_true rfl⟩) (pk_V hK hS hAB hPc hDc 0 (ci := 12) rfl rfl rfl) rfl rfl hl.1 rfl (lv_room (Nat.le_of_ble_eq_true rfl)) dX12_hole_2 ⟨Nat.le_of_ble_eq_true rfl, Nat.le_of_ble_eq_true rfl⟩) (fun x1 u2 H locs hw hPD hS => ?_)
  have h3 : (x1.toInt = 1 ∧ 0 ≤ p1.toInt ∧ p1.toInt < v12_sheets.toInt) ∨ (x1.toInt = 0 ∧ (p1.toInt < 0 ∨ v12_sheets.toInt ≤ p1.toInt)) := hw
  obtain ⟨hP, hD⟩ : PD D A [O12 a12 r12 v12_keptMany v12_done v12_sheets v12_holes v12_worms v12_laidMany v12_wanted v12_orderMany v12_firstOrder v12_lines v12_marks v12_dots v12_madeIn v12_bound v12_places v12_maps v12_tapeMany v12_stories v12_base v12_at v12_ends v12_fault v12_opened v12_bodies v12_ran v12_ownKind v12_ownNumber, (cI κ (r12 8) 40 f12_sheetOf), (cI κ (r12 9) 40 f12_placeOf)] H := hPD
  refine lv_if_eq (tgt := 20) hx hb dX12_hole_5 (by decide) (fun c4 => ?_) (fun c4 => ?_)
  · have c4 := ci_eq c4
    refine lv_iconst (v := (-1)) hx hb dX12_hole_20 (by decide) ?_
    have hpo : (0 ≤ v12_holes.toInt ∧ v12_holes.toInt ≤ 40) ∧ ((¬ (0 ≤ p1.toInt ∧ p1.toInt < v12_sheets.toInt ∧ 0 ≤ p2.toInt ∧ p2.toInt ≤ 999) ∧ ((-1) : Int32).toInt = -1 ∧ v12_holes.toInt = v12_holes.toInt) ∨ ((0 ≤ p1.toInt ∧ p1.toInt < v12_sheets.toInt ∧ 0 ≤ p2.toInt ∧ p2.toInt ≤ 999) ∧ v12_holes.toInt = 40 ∧ ((-1) : Int32).toInt = -3 ∧ v12_holes.toInt = v12_holes.toInt) ∨ ((0 ≤ p1.toInt ∧ p1.toInt < v12_sheets.toInt ∧ 0 ≤ p2.toInt ∧ p2.toInt ≤ 999) ∧ v12_holes.toInt < 40 ∧ ((-1) : Int32).toInt = v12_holes.toInt ∧ v12_holes.toInt = v12_holes.toInt + 1)) := ⟨i4, (by omega)⟩
    exact ret _ _ _ _ (-1) (v12_holes, f12_sheetOf, f12_placeOf) dX12_hole_21 hpo hP hD hS
  have c4 := ci_ne c4
  refine lv_iload_n hx hb dX12_hole_8 rfl (lv_at hl 2 rfl) ?_
  refine lv_i2l hx hb dX12_hole_9 rfl ?_
  refine lv_topl (fun x5 e6 => ?_)
  have h7 : x5.toInt = p2.toInt := cl_i2l e6
  refine lv_lconst (v := (0 : Int64)) hx hb dX12_hole_10 (by decide) ?_
  refine lv_ldc2 (v := (999 : Int64)) hx hb hown w0 dX12_hole_11 ?_
  refine kcm_i hA hAB hP hD hS [false, false, false] rfl (fun _ => rfl) (fun hPc hDc => va_runS (As := [.long x5, .long (0 : Int64), .long (999 : Int64)]) (rest := []) ⟨hx, hb, hml, hown, hts⟩ (k_X12_within l D κ β H.size x5 (0 : Int64) (999 : Int64)) (va_cwS 3 hts gX12_hole_X12_within rfl rfl rfl (by decide +kernel) ⟨Nat.le_of_ble_eq_true rfl, Nat.le_of_ble_eq_true rfl⟩) (pk_S hK hS hAB hPc hDc) rfl rfl hl.1 rfl (lv_room (Nat.le_of_ble_eq_true rfl)) dX12_hole_14 ⟨Nat.le_of_ble_eq_true rfl, Nat.le_of_ble_eq_true rfl⟩) (fun x8 u9 H locs hw hPD hS => ?_)
  have h10 : (x8.toInt = 1 ∧ (0 : Int64).toInt ≤ x5.toInt ∧ x5.toInt ≤ (999 : Int64).toInt) ∨ (x8.toInt = 0 ∧ (x5.toInt < (0 : Int64).toInt ∨ (999 : Int64).toInt < x5.toInt)) := hw
  obtain ⟨hP, hD⟩ : PD D A [O12 a12 r12 v12_keptMany v12_done v12_sheets v12_holes v12_worms v12_laidMany v12_wanted v12_orderMany v12_firstOrder v12_lines v12_marks v12_dots v12_madeIn v12_bound v12_places v12_maps v12_tapeMany v12_stories v12_base v12_at v12_ends v12_fault v12_opened v12_bodies v12_ran v12_ownKind v12_ownNumber, (cI κ (r12 8) 40 f12_sheetOf), (cI κ (r12 9) 40 f12_placeOf)] H := hPD
  refine lv_if_ne (tgt := 22) hx hb dX12_hole_17 (by decide) (fun c11 => ?_) (fun c11 => ?_)
  · have c11 := ci_ne c11
    refine lv_aload_n hx hb dX12_hole_22 rfl (lv_at hl 0 rfl) ?_
    refine va_get (D := D) (ci := 12) (v := .int v12_holes) (C := RX12) (T := TX12) (N := 63) hx hb hts w2 hown hK.1 hP 0 rfl rfl 7 (by decide) w1 (fun _ h9 => h9) rfl dX12_hole_23 ?_
    refine lv_bipush (v := 40) hx hb dX12_hole_26 (by decide) ?_
    refine lv_icmp_ne (tgt := 34) hx hb dX12_hole_28 (by decide) (fun c12 => ?_) (fun c12 => ?_)
    · have c12 := ci_ne c12
      refine lv_aload_n hx hb dX12_hole_34 rfl (lv_at hl 0 rfl) ?_
      refine va_get (D := D) (ci := 12) (v := .ref (r12 8)) (C := RX12) (T := TX12) (N := 63) hx hb hts w2 hown hK.1 hP 0 rfl rfl 8 (by decide) w3 (fun _ h9 => h9) rfl dX12_hole_35 ?_
      refine lv_aload_n hx hb dX12_hole_38 rfl (lv_at hl 0 rfl) ?_
      refine va_get (D := D) (ci := 12) (v := .int v12_holes) (C := RX12) (T := TX12) (N := 63) hx hb hts w2 hown hK.1 hP 0 rfl rfl 7 (by decide) w1 (fun _ h9 => h9) rfl dX12_hole_39 ?_
      refine lv_iload_n hx hb dX12_hole_42 rfl (lv_at hl 1 rfl) ?_
      refine va_iast hx hb hK.1 hP hD hS 1 1 rfl rfl (i := v12_holes) (ix (by omega) (by omega)) dX12_hole_43 (fun H locs hP hD hS => ?_)
      obtain ⟨g13, e14⟩ : ∃ y : Nat → Int32, y = upd f12_sheetOf v12_holes.toNatClampNeg p1 := ⟨_, rfl⟩
      rw [← e14] at hP hD
      obtain ⟨hP, hD⟩ : PD D A [O12 a12 r12 v12_keptMany v12_done v12_sheets v12_holes v12_worms v12_laidMany v12_wanted v12_orderMany v12_firstOrder v12_lines v12_marks v12_dots v12_madeIn v12_bound v12_places v12_maps v12_tapeMany v12_stories v12_base v12_at v12_ends v12_fault v12_opened v12_bodies v12_ran v12_ownKind v12_ownNumber, (cI κ (r12 8) 40 g13), (cI κ (r12 9) 40 f12_placeOf)] H := ⟨hP, hD⟩
      refine lv_aload_n hx hb dX12_hole_44 rfl (lv_at hl 0 rfl) ?_
      refine va_get (D := D) (ci := 12) (v := .ref (r12 9)) (C := RX12) (T := TX12) (N := 63) hx hb hts w2 hown hK.1 hP 0 rfl rfl 9 (by decide) w4 (fun _ h9 => h9) rfl dX12_hole_45 ?_
      refine lv_aload_n hx hb dX12_hole_48 rfl (lv_at hl 0 rfl) ?_
      refine va_get (D := D) (ci := 12) (v := .int v12_holes) (C := RX12) (T := TX12) (N := 63) hx hb hts w2 hown hK.1 hP 0 rfl rfl 7 (by decide) w1 (fun _ h9 => h9) rfl dX12_hole_49 ?_
      refine lv_iload_n hx hb dX12_hole_52 rfl (lv_at hl 2 rfl) ?_
      refine va_iast hx hb hK.1 hP hD hS 2 1 rfl rfl (i := v12_holes) (ix (by omega) (by omega)) dX12_hole_53 (fun H locs hP hD hS => ?_)
      obtain ⟨g15, e16⟩ : ∃ y : Nat → Int32, y = upd f12_placeOf v12_holes.toNatClampNeg p2 := ⟨_, rfl⟩
      rw [← e16] at hP hD
      obtain ⟨hP, hD⟩ : PD D A [O12 a12 r12 v12_keptMany v12_done v12_sheets v12_holes v12_worms v12_laidMany v12_wanted v12_orderMany v12_firstOrder v12_lines v12_marks v12_dots v12_madeIn v12_bound v12_places v12_maps v12_tapeMany v12_stories v12_base v12_at v12_ends v12_fault v12_opened v12_bodies v12_ran v12_ownKind v12_ownNumber, (cI κ (r12 8) 40 g13), (cI κ (r12 9) 40 g15)] H := ⟨hP, hD⟩
      refine lv_aload_n hx hb dX12_hole_54 rfl (lv_at hl 0 rfl) ?_
      refine lv_dup hx hb dX12_hole_55 rfl ?_
      refine va_get (D := D) (ci := 12) (v := .int v12_holes) (C := RX12) (T := TX12) (N := 63) hx hb hts w2 hown hK.1 hP 0 rfl rfl 7 (by decide) w1 (fun _ h9 => h9) rfl dX12_hole_56 ?_
      refine lv_iconst (v := 1) hx hb dX12_hole_59 (by decide) ?_
      refine lv_iadd hx hb dX12_hole_60 ?_
      refine lv_topi (fun x17 e18 => ?_)
      try have h19 : x17.toInt = v12_holes.toInt + (1 : Int32).toInt := ci_add e18 (by omega) (by omega)
      refine va_put (D := D) (ci := 12) (v := .int x17) (ty := .int) (C := RX12) (T := TX12) (N := 63) hx hb hts w2 tyX12 tyX12_ok nmX12 hown hK.1 hP hD hS 0 rfl rfl 7 (by decide) w1 (fun _ h9 => h9) rfl (by decide +kernel) rfl rfl (Nat.le_of_ble_eq_true rfl) dX12_hole_61 (fun H locs hP hD hS => ?_)
      obtain ⟨hP, hD⟩ : PD D A [O12 a12 r12 v12_keptMany v12_done v12_sheets x17 v12_worms v12_laidMany v12_wanted v12_orderMany v12_firstOrder v12_lines v12_marks v12_dots v12_madeIn v12_bound v12_places v12_maps v12_tapeMany v12_stories v12_base v12_at v12_ends v12_fault v12_opened v12_bodies v12_ran v12_ownKind v12_ownNumber, (cI κ (r12 8) 40 g13), (cI κ (r12 9) 40 g15)] H := ⟨hP, hD⟩
      have h20 : 0 ≤ x17.toInt ∧ x17.toInt ≤ 40 := by omega
      refine lv_aload_n hx hb dX12_hole_64 rfl (lv_at hl 0 rfl) ?_
      refine va_get (D := D) (ci := 12) (v := .int x17) (C := RX12) (T := TX12) (N := 63) hx hb hts w2 hown hK.1 hP 0 rfl rfl 7 (by decide) w1 (fun _ h9 => h9) rfl dX12_hole_65 ?_
      refine lv_iconst (v := 1) hx hb dX12_hole_68 (by decide) ?_
      refine lv_isub hx hb dX12_hole_69 ?_
      refine lv_topi (fun x21 e22 => ?_)
      try have h23 : x21.toInt = x17.toInt - (1 : Int32).toInt := ci_sub e22 (by omega) (by omega)
      have hpo : (0 ≤ x17.toInt ∧ x17.toInt ≤ 40) ∧ ((¬ (0 ≤ p1.toInt ∧ p1.toInt < v12_sheets.toInt ∧ 0 ≤ p2.toInt ∧ p2.toInt ≤ 999) ∧ x21.toInt = -1 ∧ x17.toInt = v12_holes.toInt) ∨ ((0 ≤ p1.toInt ∧ p1.toInt < v12_sheets.toInt ∧ 0 ≤ p2.toInt ∧ p2.toInt ≤ 999) ∧ v12_holes.toInt = 40 ∧ x21.toInt = -3 ∧ x17.toInt = v12_holes.toInt) ∨ ((0 ≤ p1.toInt ∧ p1.toInt < v12_sheets.toInt ∧ 0 ≤ p2.toInt ∧ p2.toInt ≤ 999) ∧ v12_holes.toInt < 40 ∧ x21.toInt = v12_holes.toInt ∧ x17.toInt = v12_holes.toInt + 1)) := ⟨h20, (by omega)⟩
      exact ret _ _ _ _ x21 (x17, g13, g15) dX12_hole_70 hpo hP hD hS
    have c12 := ci_eq c12
    refine lv_bipush (v := (-3)) hx hb dX12_hole_31 (by decide) ?_
    have hpo : (0 ≤ v12_holes.toInt ∧ v12_holes.toInt ≤ 40) ∧ ((¬ (0 ≤ p1.toInt ∧ p1.toInt < v12_sheets.toInt ∧ 0 ≤ p2.toInt ∧ p2.toInt ≤ 999) ∧ ((-3) : Int32).toInt = -1 ∧ v12_holes.toInt = v12_holes.toInt) ∨ ((0 ≤ p1.toInt ∧ p1.toInt < v12_sheets.toInt ∧ 0 ≤ p2.toInt ∧ p2.toInt ≤ 999) ∧ v12_holes.toInt = 40 ∧ ((-3) : Int32).toInt = -3 ∧ v12_holes.toInt = v12_holes.toInt) ∨ ((0 ≤ p1.toInt ∧ p1.toInt < v12_sheets.toInt ∧ 0 ≤ p2.toInt ∧ p2.toInt ≤ 999) ∧ v12_holes.toInt < 40 ∧ ((-3) : Int32).toInt = v12_holes.toInt ∧ v12_holes.toInt = v12_holes.toInt + 1)) := ⟨i4, (by omega)⟩
    exact ret _ _ _ _ (-3) (v12_holes, f12_sheetOf, f12_placeOf) dX12_hole_33 hpo hP hD hS
  have c11 := ci_eq c11
  refine lv_iconst (v := (-1)) hx hb dX12_hole_20 (by decide) ?_
  have hpo : (0 ≤ v12_holes.toInt ∧ v12_holes.toInt ≤ 40) ∧ ((¬ (0 ≤ p1.toInt ∧ p1.toInt < v12_sheets.toInt ∧ 0 ≤ p2.toInt ∧ p2.toInt ≤ 999) ∧ ((-1) : Int32).toInt = -1 ∧ v12_holes.toInt = v12_holes.toInt) ∨ ((0 ≤ p1.toInt ∧ p1.toInt < v12_sheets.toInt ∧ 0 ≤ p2.toInt ∧ p2.toInt ≤ 999) ∧ v12_holes.toInt = 40 ∧ ((-1) : Int32).toInt = -3 ∧ v12_holes.toInt = v12_holes.toInt) ∨ ((0 ≤ p1.toInt ∧ p1.toInt < v12_sheets.toInt ∧ 0 ≤ p2.toInt ∧ p2.toInt ≤ 999) ∧ v12_holes.toInt < 40 ∧ ((-1) : Int32).toInt = v12_holes.toInt ∧ v12_holes.toInt = v12_holes.toInt + 1)) := ⟨i4, (by omega)⟩
  exact ret _ _ _ _ (-1) (v12_holes, f12_sheetOf, f12_placeOf) dX12_hole_21 hpo hP hD hS
set_option maxHeartbeats 4000000 in
set_option maxRecDepth 100000 in
theorem k_X12_findWorms (l : Launch) (D : va_G) (κ : Nat → ClassId) (β : Nat) (a12 : Nat) (r12 : Nat → Nat) (v12_keptMany : Int32) (v12_done : Int32) (v12_sheets : Int32) (v12_holes : Int32) (v12_worms : Int32) (v12_laidMany : Int32) (v12_wanted : Int32) (v12_orderMany : Int32) (v12_firstOrder : Int32) (v12_lines : Int32) (v12_marks : Int32) (v12_dots : Int32) (v12_madeIn : Int32) (v12_bound : Int32) (v12_places : Int32) (v12_maps : Int32) (v12_tapeMany : Int32) (v12_stories : Int32) (v12_base : Int32) (v12_at : Int32) (v12_ends : Int32) (v12_fault : Int32) (v12_opened : Int32) (v12_bodies : Int32) (v12_ran : Int32) (v12_ownKind : Int32) (v12_ownNumber : Int32) (f12_sheetOf : Nat → Int32) (f12_placeOf : Nat → Int32) (f12_sorted : Nat → Int32) (f12_wormOf : Nat → Int32) (f12_wormSheets : Nat → Int32) (sz : Nat) (p1 : Int32) (p2 : Int32) (i1 : Rg 0 40 v12_keptMany) (i2 : Rg 0 40 v12_done) (i3 : Rg 0 8 v12_sheets) (i4 : Rg 0 40 v12_holes) (i5 : Rg 0 40 v12_worms) (i6 : Rg 0 8 v12_laidMany) (i7 : Rg 0 8 v12_wanted) (i8 : Rg 0 20 v12_lines) (i9 : Rg 0 60 v12_marks) (i10 : Rg 0 40 v12_dots) (i11 : Rg 0 20 v12_places) (i12 : Rg 0 8 v12_maps) (i13 : Rg 0 120 v12_tapeMany) (i14 : Rg 0 6 v12_stories) (i15 : Rg 0 50 v12_bodies) (i16 : Rg 0 1000 v12_ran) (hf12_sorted : ∀ j : Nat, 0 ≤ (f12_sorted j).toInt ∧ (f12_sorted j).toInt ≤ 39) (i17 : v12_done.toInt ≤ v12_keptMany.toInt) : Met l yX12_findWorms wsX12_findWorms ({ frames := 0, cells := 0, slots := 0, locals := 0 } : Room) (PcK D κ β [O12 a12 r12 v12_keptMany v12_done v12_sheets v12_holes v12_worms v12_laidMany v12_wanted v12_orderMany v12_firstOrder v12_lines v12_marks v12_dots v12_madeIn v12_bound v12_places v12_maps v12_tapeMany v12_stories v12_base v12_at v12_ends v12_fault v12_opened v12_bodies v12_ran v12_ownKind v12_ownNumber, (cI κ (r12 8) 40 f12_sheetOf), (cI κ (r12 9) 40 f12_placeOf), (cI κ (r12 10) 40 f12_sorted), (cI κ (r12 11) 40 f12_wormOf), (cI κ (r12 12) 40 f12_wormSheets)] sz [.ref a12, .int p1, .int p2]) (QvK D (fun (u : Int32 × (Nat → Int32) × (Nat → Int32) × (Nat → Int32)) => (0 ≤ u.1.toInt ∧ u.1.toInt ≤ 40) ∧ (∀ j : Nat, 0 ≤ (u.2.1 j).toInt ∧ (u.2.1 j).toInt ≤ 39)) (fun (u : Int32 × (Nat → Int32) × (Nat → Int32) × (Nat → Int32)) => [O12 a12 r12 v12_keptMany v12_done v12_sheets v12_holes u.1 v12_laidMany v12_wanted v12_orderMany v12_firstOrder v12_lines v12_marks v12_dots v12_madeIn v12_bound v12_places v12_maps v12_tapeMany v12_stories v12_base v12_at v12_ends v12_fault v12_opened v12_bodies v12_ran v12_ownKind v12_ownNumber, (cI κ (r12 8) 40 f12_sheetOf), (cI κ (r12 9) 40 f12_placeOf), (cI κ (r12 10) 40 u.2.1), (cI κ (r12 11) 40 u.2.2.1), (cI κ (r12 12) 40 u.2.2.2)]) [O12 a12 r12 v12_keptMany v12_done v12_sheets v12_holes v12_worms v12_laidMany v12_wanted v12_orderMany v12_firstOrder v12_lines v12_marks v12_dots v12_madeIn v12_bound v12_places v12_maps v12_tapeMany v12_stories v12_base v12_at v12_ends v12_fault v12_opened v12_bodies v12_ran v12_ownKind v12_ownNumber, (cI κ (r12 8) 40 f12_sheetOf), (cI κ (r12 9) 40 f12_placeOf), (cI κ (r12 10) 40 f12_sorted), (cI κ (r12 11) 40 f12_wormOf), (cI κ (r12 12) 40 f12_wormSheets)] sz) 0 0 (va_A [O12 a12 r12 v12_keptMany v12_done v12_sheets v12_holes v12_worms v12_laidMany v12_wanted v12_orderMany v12_firstOrder v12_lines v12_marks v12_dots v12_madeIn v12_bound v12_places v12_maps v12_tapeMany v12_stories v12_base v12_at v12_ends v12_fault v12_opened v12_bodies v12_ran v12_ownKind v12_ownNumber, (cI κ (r12 8) 40 f12_sheetOf), (cI κ (r12 9) 40 f12_placeOf), (cI κ (r12 10) 40 f12_sorted), (cI κ (r12 11) 40 f12_wormOf), (cI κ (r12 12) 40 f12_wormSheets)] sz) := by
  refine ofK_v (cc := cX12_findWorms) (maxL := 8) (own := RX12) (by decide) rfl rfl (Nat.le_of_ble_eq_true rfl) ?_
  intro p e s m args below meth c Q A ls hsz hx hb hml hts hown hK hA hAB hP hD hl hname ret
  have hS : va_S A s.heap s.heap [] := va_S.rf
  have hl : lv_has ls 8 [(0, .ref a12), (1, .int p1), (2, .int p2)] := hl
  have w0 := hts (.fieldLink RX12 140 "OlderSkinModel" "holes" "I") (List.mem_of_getElem? (i := 1) rfl)
  have w1 := (fun w h => List.mem_cons_of_mem _ (List.mem_append_right _ h) : ∀ w ∈ u_ws RX12 TX12 63, w ∈ wsX12_findWorms)
  have w2 := hts (.fieldLink RX12 160 "OlderSkinModel" "worms" "I") (List.mem_of_getElem? (i := 6) rfl)
  have w3 := hts (.fieldLink RX12 28 "OlderSkinModel" "sorted" "[I") (List.mem_of_getElem? (i := 5) rfl)
  have w4 := hts (.fieldLink RX12 22 "OlderSkinModel" "sheetOf" "[I") (List.mem_of_getElem? (i := 3) rfl)
  have w5 := hts (.fieldLink RX12 34 "OlderSkinModel" "wormSheets" "[I") (List.mem_of_getElem? (i := 7) rfl)
  have w6 := hts (.fieldLink RX12 31 "OlderSkinModel" "wormOf" "[I") (List.mem_of_getElem? (i := 2) rfl)
  have w7 := hts (.fieldLink RX12 25 "OlderSkinModel" "placeOf" "[I") (List.mem_of_getElem? (i := 4) rfl)
  have l0 : (0 : Int32).toInt = 0 := by decide
  have l1 : (1 : Int32).toInt = 1 := by decide
  have l2 : ((-1) : Int32).toInt = -1 := by decide
  have i4 : 0 ≤ v12_holes.toInt ∧ v12_holes.toInt ≤ 40 := i4
  have i5 : 0 ≤ v12_worms.toInt ∧ v12_worms.toInt ≤ 40 := i5
  refine lv_iconst (v := 0) hx hb dX12_findWorms_0 (by decide) ?_
  refine lv_istore_n (lv' := [(3, .int 0), (0, .ref a12), (1, .int p1), (2, .int p2)]) hx hb dX12_findWorms_1 rfl hl (by decide) rfl (fun ls hl => ?_)
  refine lv_iconst (v := 0) hx hb dX12_findWorms_2 (by decide) ?_
  refine lv_istore (lv' := [(4, .int 0), (3, .int 0), (0, .ref a12), (1, .int p1), (2, .int p2)]) hx hb dX12_findWorms_3 hl (by decide) rfl (fun ls hl => ?_)
  have lp5 : ∀ (n5 : Nat) (k1 : Int32) (k2 : Int32) (g3 : Nat → Int32) (g5 : Nat → Int32), (∀ j : Nat, 0 ≤ (g3 j).toInt ∧ (g3 j).toInt ≤ 39) → (0 ≤ k2.toInt ∧ k2.toInt ≤ k1.toInt) → (k1.toInt ≤ v12_holes.toInt) → (0 ≤ k1.toInt) → (v12_holes.toInt - k1.toInt).toNat < n5 → ∀ (H : Heap) (locs : List Loc), va_P D vwCl [O12 a12 r12 v12_keptMany v12_done v12_sheets v12_holes v12_worms v12_laidMany v12_wanted v12_orderMany v12_firstOrder v12_lines v12_marks v12_dots v12_madeIn v12_bound v12_places v12_maps v12_tapeMany v12_stories v12_base v12_at v12_ends v12_fault v12_opened v12_bodies v12_ran v12_ownKind v12_ownNumber, (cI κ (r12 8) 40 f12_sheetOf), (cI κ (r12 9) 40 f12_placeOf), (cI κ (r12 10) 40 g3), (cI κ (r12 11) 40 g5), (cI κ (r12 12) 40 f12_wormSheets)] H → va_D A [O12 a12 r12 v12_keptMany v12_done v12_sheets v12_holes v12_worms v12_laidMany v12_wanted v12_orderMany v12_firstOrder v12_lines v12_marks v12_dots v12_madeIn v12_bound v12_places v12_maps v12_tapeMany v12_stories v12_base v12_at v12_ends v12_fault v12_opened v12_bodies v12_ran v12_ownKind v12_ownNumber, (cI κ (r12 8) 40 f12_sheetOf), (cI κ (r12 9) 40 f12_placeOf), (cI κ (r12 10) 40 g3), (cI κ (r12 11) 40 g5), (cI κ (r12 12) 40 f12_wormSheets)] → va_S A s.heap H locs → ∀ ls : Array Slot, lv_has ls 8 [(4, .int k1), (3, .int k2), (0, .ref a12), (1, .int p1), (2, .int p2)] → W p l e ({ frames := 0, cells := 0, slots := 0, locals := 0 } : Room) s m args below meth c H locs 0 0 Q (F0 m 5 ls []) := by
    intro n5
    induction n5 with
    | zero =>
      intro k1 k2 g3 g5 h4 h6 h7 h8 m9
      exact absurd m9 (Nat.not_lt_zero _)
    | succ n5 ih5 =>
      intro k1 k2 g3 g5 h4 h6 h7 h8 m9 H locs hP hD hS ls hl
      refine lv_iload hx hb dX12_findWorms_5 (lv_at hl 0 rfl) ?_
      refine lv_aload_n hx hb dX12_findWorms_7 rfl (lv_at hl 2 rfl) ?_
      refine va_get (D := D) (ci := 12) (v := .int v12_holes) (C := RX12) (T := TX12) (N := 63) hx hb hts w1 hown hK.1 hP 0 rfl rfl 7 (by decide) w0 (fun _ h9 => h9) rfl dX12_findWorms_8 ?_
      refine lv_icmp_ge (tgt := 105) hx hb dX12_findWorms_11 (by decide) (fun c10 => ?_) (fun c10 => ?_)
      · have c10 := ci_le c10
        refine lv_aload_n hx hb dX12_findWorms_105 rfl (lv_at hl 2 rfl) ?_
        refine lv_iconst (v := 0) hx hb dX12_findWorms_106 (by decide) ?_
        refine va_put (D := D) (ci := 12) (v := .int 0) (ty := .int) (C := RX12) (T := TX12) (N := 63) hx hb hts w1 tyX12 tyX12_ok nmX12 hown hK.1 hP hD hS 0 rfl rfl 13 (by decide) w2 (fun _ h9 => h9) rfl (by decide +kernel) rfl rfl (Nat.le_of_ble_eq_true rfl) dX12_findWorms_107 (fun H locs hP hD hS => ?_)
        obtain ⟨hP, hD⟩ : PD D A [O12 a12 r12 v12_keptMany v12_done v12_sheets v12_holes 0 v12_laidMany v12_wanted v12_orderMany v12_firstOrder v12_lines v12_marks v12_dots v12_madeIn v12_bound v12_places v12_maps v12_tapeMany v12_stories v12_base v12_at v12_ends v12_fault v12_opened v12_bodies v12_ran v12_ownKind v12_ownNumber, (cI κ (r12 8) 40 f12_sheetOf), (cI κ (r12 9) 40 f12_placeOf), (cI κ (r12 10) 40 g3), (cI κ (r12 11) 40 g5), (cI κ (r12 12) 40 f12_wormSheets)] H := ⟨hP, hD⟩
        have h11 : 0 ≤ (0 : Int32).toInt ∧ (0 : Int32).toInt ≤ 40 := by omega
        refine lv_iconst (v := 0) hx hb dX12_findWorms_110 (by decide) ?_
        refine lv_istore (lv' := [(4, .int 0), (3, .int k2), (0, .ref a12), (1, .int p1), (2, .int p2)]) hx hb dX12_findWorms_111 hl (by decide) rfl (fun ls hl => ?_)
        have lp113 : ∀ (n113 : Nat) (k12 : Int32) (v13 : Int32) (g14 : Nat → Int32) (g15 : Nat → Int32), (0 ≤ v13.toInt ∧ v13.toInt ≤ 40) → (v13.toInt ≤ k12.toInt) → (k12.toInt = 0 ∨ 1 ≤ v13.toInt) → (0 ≤ k12.toInt) → (k2.toInt - k12.toInt).toNat < n113 → ∀ (H : Heap) (locs : List Loc), va_P D vwCl [O12 a12 r12 v12_keptMany v12_done v12_sheets v12_holes v13 v12_laidMany v12_wanted v12_orderMany v12_firstOrder v12_lines v12_marks v12_dots v12_madeIn v12_bound v12_places v12_maps v12_tapeMany v12_stories v12_base v12_at v12_ends v12_fault v12_opened v12_bodies v12_ran v12_ownKind v12_ownNumber, (cI κ (r12 8) 40 f12_sheetOf), (cI κ (r12 9) 40 f12_placeOf), (cI κ (r12 10) 40 g3), (cI κ (r12 11) 40 g14), (cI κ (r12 12) 40 g15)] H → va_D A [O12 a12 r12 v12_keptMany v12_done v12_sheets v12_holes v13 v12_laidMany v12_wanted v12_orderMany v12_firstOrder v12_lines v12_marks v12_dots v12_madeIn v12_bound v12_places v12_maps v12_tapeMany v12_stories v12_base v12_at v12_ends v12_fault v12_opened v12_bodies v12_ran v12_ownKind v12_ownNumber, (cI κ (r12 8) 40 f12_sheetOf), (cI κ (r12 9) 40 f12_placeOf), (cI κ (r12 10) 40 g3), (cI κ (r12 11) 40 g14), (cI κ (r12 12) 40 g15)] → va_S A s.heap H locs → ∀ ls : Array Slot, lv_has ls 8 [(4, .int k12), (3, .int k2), (0, .ref a12), (1, .int p1), (2, .int p2)] → W p l e ({ frames := 0, cells := 0, slots := 0, locals := 0 } : Room) s m args below meth c H locs 0 0 Q (F0 m 113 ls []) := by
          intro n113
          induction n113 with
          | zero =>
            intro k12 v13 g14 g15 h16 h17 h18 h19 m20
            exact absurd m20 (Nat.not_lt_zero _)
          | succ n113 ih113 =>
            intro k12 v13 g14 g15 h16 h17 h18 h19 m20 H locs hP hD hS ls hl
            refine lv_iload hx hb dX12_findWorms_113 (lv_at hl 0 rfl) ?_
            refine lv_iload_n hx hb dX12_findWorms_115 rfl (lv_at hl 1 rfl) ?_
            refine lv_icmp_ge (tgt := 263) hx hb dX12_findWorms_116 (by decide) (fun c21 => ?_) (fun c21 => ?_)
            · have c21 := ci_le c21
              have hpo : (0 ≤ v13.toInt ∧ v13.toInt ≤ 40) ∧ (∀ j : Nat, 0 ≤ (g3 j).toInt ∧ (g3 j).toInt ≤ 39) := ⟨h16, h4⟩
              exact ret _ _ _ _ (v13, g3, g14, g15) dX12_findWorms_263 hpo hP hD hS
            have c21 := ci_nle c21
            refine lv_aload_n hx hb dX12_findWorms_119 rfl (lv_at hl 2 rfl) ?_
            refine va_get (D := D) (ci := 12) (v := .ref (r12 10)) (C := RX12) (T := TX12) (N := 63) hx hb hts w1 hown hK.1 hP 0 rfl rfl 10 (by decide) w3 (fun _ h9 => h9) rfl dX12_findWorms_120 ?_
            refine lv_iload hx hb dX12_findWorms_123 (lv_at hl 0 rfl) ?_
            refine va_iald hx hb hK.1 hP 3 1 rfl rfl (i := k12) (ix (by omega) (by omega)) dX12_findWorms_125 ?_
            refine lv_topi (fun x22 e23 => ?_)
            have h24 : 0 ≤ x22.toInt ∧ x22.toInt ≤ 39 := by rw [e23]; exact h4 _
            refine lv_istore (lv' := [(5, .int x22), (4, .int k12), (3, .int k2), (0, .ref a12), (1, .int p1), (2, .int p2)]) hx hb dX12_findWorms_126 hl (by decide) rfl (fun ls hl => ?_)
            refine lv_iconst (v := 1) hx hb dX12_findWorms_128 (by decide) ?_
            refine lv_aload_n hx hb dX12_findWorms_129 rfl (lv_at hl 3 rfl) ?_
            refine va_get (D := D) (ci := 12) (v := .ref (r12 8)) (C := RX12) (T := TX12) (N := 63) hx hb hts w1 hown hK.1 hP 0 rfl rfl 8 (by decide) w4 (fun _ h9 => h9) rfl dX12_findWorms_130 ?_
            refine lv_iload hx hb dX12_findWorms_133 (lv_at hl 0 rfl) ?_
            refine va_iald hx hb hK.1 hP 1 1 rfl rfl (i := x22) (ix (by omega) (by omega)) dX12_findWorms_135 ?_
            refine lv_topi (fun x25 e26 => ?_)
            refine lv_ishl hx hb dX12_findWorms_136 ?_
            refine lv_topi (fun x27 e28 => ?_)
            refine lv_istore (lv' := [(6, .int x27), (5, .int x22), (4, .int k12), (3, .int k2), (0, .ref a12), (1, .int p1), (2, .int p2)]) hx hb dX12_findWorms_137 hl (by decide) rfl (fun ls hl => ?_)
            refine lv_iload hx hb dX12_findWorms_139 (lv_at hl 2 rfl) ?_
            refine lv_if_le (tgt := 200) hx hb dX12_findWorms_141 (by decide) (fun c29 => ?_) (fun c29 => ?_)
            · have c29 := ci_le c29
              refine lv_iconst (v := 0) hx hb dX12_findWorms_200 (by decide) ?_
              refine lv_istore (lv' := [(7, .int 0), (6, .int x27), (5, .int x22), (4, .int k12), (3, .int k2), (0, .ref a12), (1, .int p1), (2, .int p2)]) hx hb dX12_findWorms_201 hl (by decide) rfl (fun ls hl => ?_)
              refine lv_iload hx hb dX12_findWorms_203 (lv_at hl 0 rfl) ?_
              refine lv_if_ne (tgt := 228) hx hb dX12_findWorms_205 (by decide) (fun c30 => ?_) (fun c30 => ?_)
              · have c30 := ci_ne c30
                exfalso
                omega
              have c30 := ci_eq c30
              refine lv_aload_n hx hb dX12_findWorms_208 rfl (lv_at hl 5 rfl) ?_
              refine va_get (D := D) (ci := 12) (v := .ref (r12 12)) (C := RX12) (T := TX12) (N := 63) hx hb hts w1 hown hK.1 hP 0 rfl rfl 12 (by decide) w5 (fun _ h9 => h9) rfl dX12_findWorms_209 ?_
              refine lv_aload_n hx hb dX12_findWorms_212 rfl (lv_at hl 5 rfl) ?_
              refine va_get (D := D) (ci := 12) (v := .int v13) (C := RX12) (T := TX12) (N := 63) hx hb hts w1 hown hK.1 hP 0 rfl rfl 13 (by decide) w2 (fun _ h9 => h9) rfl dX12_findWorms_213 ?_
              refine lv_iconst (v := 0) hx hb dX12_findWorms_216 (by decide) ?_
              refine va_iast hx hb hK.1 hP hD hS 5 1 rfl rfl (i := v13) (ix (by omega) (by omega)) dX12_findWorms_217 (fun H locs hP hD hS => ?_)
              obtain ⟨g31, e32⟩ : ∃ y : Nat → Int32, y = upd g15 v13.toNatClampNeg 0 := ⟨_, rfl⟩
              rw [← e32] at hP hD
              obtain ⟨hP, hD⟩ : PD D A [O12 a12 r12 v12_keptMany v12_done v12_sheets v12_holes v13 v12_laidMany v12_wanted v12_orderMany v12_firstOrder v12_lines v12_marks v12_dots v12_madeIn v12_bound v12_places v12_maps v12_tapeMany v12_stories v12_base v12_at v12_ends v12_fault v12_opened v12_bodies v12_ran v12_ownKind v12_ownNumber, (cI κ (r12 8) 40 f12_sheetOf), (cI κ (r12 9) 40 f12_placeOf), (cI κ (r12 10) 40 g3), (cI κ (r12 11) 40 g14), (cI κ (r12 12) 40 g31)] H := ⟨hP, hD⟩
              refine lv_aload_n hx hb dX12_findWorms_218 rfl (lv_at hl 5 rfl) ?_
              refine lv_dup hx hb dX12_findWorms_219 rfl ?_
              refine va_get (D := D) (ci := 12) (v := .int v13) (C := RX12) (T := TX12) (N := 63) hx hb hts w1 hown hK.1 hP 0 rfl rfl 13 (by decide) w2 (fun _ h9 => h9) rfl dX12_findWorms_220 ?_
              refine lv_iconst (v := 1) hx hb dX12_findWorms_223 (by decide) ?_
              refine lv_iadd hx hb dX12_findWorms_224 ?_
              refine lv_topi (fun x33 e34 => ?_)
              try have h35 : x33.toInt = v13.toInt + (1 : Int32).toInt := ci_add e34 (by omega) (by omega)
              refine va_put (D := D) (ci := 12) (v := .int x33) (ty := .int) (C := RX12) (T := TX12) (N := 63) hx hb hts w1 tyX12 tyX12_ok nmX12 hown hK.1 hP hD hS 0 rfl rfl 13 (by decide) w2 (fun _ h9 => h9) rfl (by decide +kernel) rfl rfl (Nat.le_of_ble_eq_true rfl) dX12_findWorms_225 (fun H locs hP hD hS => ?_)
              obtain ⟨hP, hD⟩ : PD D A [O12 a12 r12 v12_keptMany v12_done v12_sheets v12_holes x33 v12_laidMany v12_wanted v12_orderMany v12_firstOrder v12_lines v12_marks v12_dots v12_madeIn v12_bound v12_places v12_maps v12_tapeMany v12_stories v12_base v12_at v12_ends v12_fault v12_opened v12_bodies v12_ran v12_ownKind v12_ownNumber, (cI κ (r12 8) 40 f12_sheetOf), (cI κ (r12 9) 40 f12_placeOf), (cI κ (r12 10) 40 g3), (cI κ (r12 11) 40 g14), (cI κ (r12 12) 40 g31)] H := ⟨hP, hD⟩
              have h36 : 0 ≤ x33.toInt ∧ x33.toInt ≤ 40 := by omega
              refine lv_aload_n hx hb dX12_findWorms_228 rfl (lv_at hl 5 rfl) ?_
              refine va_get (D := D) (ci := 12) (v := .ref (r12 12)) (C := RX12) (T := TX12) (N := 63) hx hb hts w1 hown hK.1 hP 0 rfl rfl 12 (by decide) w5 (fun _ h9 => h9) rfl dX12_findWorms_229 ?_
              refine lv_aload_n hx hb dX12_findWorms_232 rfl (lv_at hl 5 rfl) ?_
              refine va_get (D := D) (ci := 12) (v := .int x33) (C := RX12) (T := TX12) (N := 63) hx hb hts w1 hown hK.1 hP 0 rfl rfl 13 (by decide) w2 (fun _ h9 => h9) rfl dX12_findWorms_233 ?_
              refine lv_iconst (v := 1) hx hb dX12_findWorms_236 (by decide) ?_
              refine lv_isub hx hb dX12_findWorms_237 ?_
              refine lv_topi (fun x37 e38 => ?_)
              try have h39 : x37.toInt = x33.toInt - (1 : Int32).toInt := ci_sub e38 (by omega) (by omega)
              refine lv_dup2_11 hx hb dX12_findWorms_238 rfl rfl ?_
              refine va_iald hx hb hK.1 hP 5 1 rfl rfl (i := x37) (ix (by omega) (by omega)) dX12_findWorms_239 ?_
              refine lv_topi (fun x40 e41 => ?_)
              refine lv_iload hx hb dX12_findWorms_240 (lv_at hl 1 rfl) ?_
              refine lv_ior hx hb dX12_findWorms_242 ?_
              refine lv_topi (fun x42 e43 => ?_)
              refine va_iast hx hb hK.1 hP hD hS 5 1 rfl rfl (i := x37) (ix (by omega) (by omega)) dX12_findWorms_243 (fun H locs hP hD hS => ?_)
              obtain ⟨g44, e45⟩ : ∃ y : Nat → Int32, y = upd g31 x37.toNatClampNeg x42 := ⟨_, rfl⟩
              rw [← e45] at hP hD
              obtain ⟨hP, hD⟩ : PD D A [O12 a12 r12 v12_keptMany v12_done v12_sheets v12_holes x33 v12_laidMany v12_wanted v12_orderMany v12_firstOrder v12_lines v12_marks v12_dots v12_madeIn v12_bound v12_places v12_maps v12_tapeMany v12_stories v12_base v12_at v12_ends v12_fault v12_opened v12_bodies v12_ran v12_ownKind v12_ownNumber, (cI κ (r12 8) 40 f12_sheetOf), (cI κ (r12 9) 40 f12_placeOf), (cI κ (r12 10) 40 g3), (cI κ (r12 11) 40 g14), (cI κ (r12 12) 40 g44)] H := ⟨hP, hD⟩
              refine lv_aload_n hx hb dX12_findWorms_244 rfl (lv_at hl 5 rfl) ?_
              refine va_get (D := D) (ci := 12) (v := .ref (r12 11)) (C := RX12) (T := TX12) (N := 63) hx hb hts w1 hown hK.1 hP 0 rfl rfl 11 (by decide) w6 (fun _ h9 => h9) rfl dX12_findWorms_245 ?_
              refine lv_iload hx hb dX12_findWorms_248 (lv_at hl 2 rfl) ?_
              refine lv_aload_n hx hb dX12_findWorms_250 rfl (lv_at hl 5 rfl) ?_
              refine va_get (D := D) (ci := 12) (v := .int x33) (C := RX12) (T := TX12) (N := 63) hx hb hts w1 hown hK.1 hP 0 rfl rfl 13 (by decide) w2 (fun _ h9 => h9) rfl dX12_findWorms_251 ?_
              refine lv_iconst (v := 1) hx hb dX12_findWorms_254 (by decide) ?_
              refine lv_isub hx hb dX12_findWorms_255 ?_
              refine lv_topi (fun x46 e47 => ?_)
              try have h48 : x46.toInt = x33.toInt - (1 : Int32).toInt := ci_sub e47 (by omega) (by omega)
              refine va_iast hx hb hK.1 hP hD hS 4 1 rfl rfl (i := x22) (ix (by omega) (by omega)) dX12_findWorms_256 (fun H locs hP hD hS => ?_)
              obtain ⟨g49, e50⟩ : ∃ y : Nat → Int32, y = upd g14 x22.toNatClampNeg x46 := ⟨_, rfl⟩
              rw [← e50] at hP hD
              obtain ⟨hP, hD⟩ : PD D A [O12 a12 r12 v12_keptMany v12_done v12_sheets v12_holes x33 v12_laidMany v12_wanted v12_orderMany v12_firstOrder v12_lines v12_marks v12_dots v12_madeIn v12_bound v12_places v12_maps v12_tapeMany v12_stories v12_base v12_at v12_ends v12_fault v12_opened v12_bodies v12_ran v12_ownKind v12_ownNumber, (cI κ (r12 8) 40 f12_sheetOf), (cI κ (r12 9) 40 f12_placeOf), (cI κ (r12 10) 40 g3), (cI κ (r12 11) 40 g49), (cI κ (r12 12) 40 g44)] H := ⟨hP, hD⟩
              obtain ⟨x51, e52⟩ : ∃ y : Int32, y = k12 + 1 := ⟨_, rfl⟩
              refine lv_iinc (v := x51) (lv' := [(4, .int x51), (7, .int 0), (6, .int x27), (5, .int x22), (3, .int k2), (0, .ref a12), (1, .int p1), (2, .int p2)]) hx hb dX12_findWorms_257 hl (k := 3) rfl (by rw [e52]; rfl) (by decide) rfl (fun ls hl => ?_)
              try have h53 : x51.toInt = k12.toInt + (1 : Int32).toInt := ci_add e52 (by omega) (by omega)
              refine lv_goto (tgt := 113) hx hb dX12_findWorms_260 (by decide) ?_
              exact ih113 x51 x33 g49 g44 h36 (by omega) (by omega) (by omega) (by omega) _ _ hP hD hS _ (lv_sub hl [0, 4, 5, 6, 7] rfl)
            have c29 := ci_nle c29
            refine lv_aload_n hx hb dX12_findWorms_144 rfl (lv_at hl 4 rfl) ?_
            refine va_get (D := D) (ci := 12) (v := .ref (r12 9)) (C := RX12) (T := TX12) (N := 63) hx hb hts w1 hown hK.1 hP 0 rfl rfl 9 (by decide) w7 (fun _ h9 => h9) rfl dX12_findWorms_145 ?_
            refine lv_iload hx hb dX12_findWorms_148 (lv_at hl 1 rfl) ?_
            refine va_iald hx hb hK.1 hP 2 1 rfl rfl (i := x22) (ix (by omega) (by omega)) dX12_findWorms_150 ?_
            refine lv_topi (fun x54 e55 => ?_)
            refine lv_aload_n hx hb dX12_findWorms_151 rfl (lv_at hl 4 rfl) ?_
            refine va_get (D := D) (ci := 12) (v := .ref (r12 9)) (C := RX12) (T := TX12) (N := 63) hx hb hts w1 hown hK.1 hP 0 rfl rfl 9 (by decide) w7 (fun _ h9 => h9) rfl dX12_findWorms_152 ?_
            refine lv_aload_n hx hb dX12_findWorms_155 rfl (lv_at hl 4 rfl) ?_
            refine va_get (D := D) (ci := 12) (v := .ref (r12 10)) (C := RX12) (T := TX12) (N := 63) hx hb hts w1 hown hK.1 hP 0 rfl rfl 10 (by decide) w3 (fun _ h9 => h9) rfl dX12_findWorms_156 ?_
            refine lv_iload hx hb dX12_findWorms_159 (lv_at hl 2 rfl) ?_
            refine lv_if_le (tgt := 171) hx hb dX12_findWorms_161 (by decide) (fun c56 => ?_) (fun c56 => ?_)
            · have c56 := ci_le c56
              refine lv_iconst (v := 0) hx hb dX12_findWorms_171 (by decide) ?_
              refine va_iald hx hb hK.1 hP 3 1 rfl rfl (i := 0) (ix (by omega) (by omega)) dX12_findWorms_172 ?_
              refine lv_topi (fun x57 e58 => ?_)
              have h59 : 0 ≤ x57.toInt ∧ x57.toInt ≤ 39 := by rw [e58]; exact h4 _
              refine va_iald hx hb hK.1 hP 2 1 rfl rfl (i := x57) (ix (by omega) (by omega)) dX12_findWorms_173 ?_
              refine lv_topi (fun x60 e61 => ?_)
              refine lv_isub hx hb dX12_findWorms_174 ?_
              refine lv_topi (fun x62 e63 => ?_)
              try have h64 : x62.toInt = x54.toInt - x60.toInt := ci_sub e63 (by omega) (by omega)
              refine lv_iload_n hx hb dX12_findWorms_175 rfl (lv_at hl 5 rfl) ?_
              refine lv_icmp_gt (tgt := 200) hx hb dX12_findWorms_176 (by decide) (fun c65 => ?_) (fun c65 => ?_)
              · have c65 := ci_lt c65
                refine lv_iconst (v := 0) hx hb dX12_findWorms_200 (by decide) ?_
                refine lv_istore (lv' := [(7, .int 0), (6, .int x27), (5, .int x22), (4, .int k12), (3, .int k2), (0, .ref a12), (1, .int p1), (2, .int p2)]) hx hb dX12_findWorms_201 hl (by decide) rfl (fun ls hl => ?_)
                refine lv_iload hx hb dX12_findWorms_203 (lv_at hl 0 rfl) ?_
                refine lv_if_ne (tgt := 228) hx hb dX12_findWorms_205 (by decide) (fun c66 => ?_) (fun c66 => ?_)
                · have c66 := ci_ne c66
                  exfalso
                  omega
                have c66 := ci_eq c66
                refine lv_aload_n hx hb dX12_findWorms_208 rfl (lv_at hl 5 rfl) ?_
                refine va_get (D := D) (ci := 12) (v := .ref (r12 12)) (C := RX12) (T := TX12) (N := 63) hx hb hts w1 hown hK.1 hP 0 rfl rfl 12 (by decide) w5 (fun _ h9 => h9) rfl dX12_findWorms_209 ?_
                refine lv_aload_n hx hb dX12_findWorms_212 rfl (lv_at hl 5 rfl) ?_
                refine va_get (D := D) (ci := 12) (v := .int v13) (C := RX12) (T := TX12) (N := 63) hx hb hts w1 hown hK.1 hP 0 rfl rfl 13 (by decide) w2 (fun _ h9 => h9) rfl dX12_findWorms_213 ?_
                refine lv_iconst (v := 0) hx hb dX12_findWorms_216 (by decide) ?_
                refine va_iast hx hb hK.1 hP hD hS 5 1 rfl rfl (i := v13) (ix (by omega) (by omega)) dX12_findWorms_217 (fun H locs hP hD hS => ?_)
                obtain ⟨g67, e68⟩ : ∃ y : Nat → Int32, y = upd g15 v13.toNatClampNeg 0 := ⟨_, rfl⟩
                rw [← e68] at hP hD
                obtain ⟨hP, hD⟩ : PD D A [O12 a12 r12 v12_keptMany v12_done v12_sheets v12_holes v13 v12_laidMany v12_wanted v12_orderMany v12_firstOrder v12_lines v12_marks v12_dots v12_madeIn v12_bound v12_places v12_maps v12_tapeMany v12_stories v12_base v12_at v12_ends v12_fault v12_opened v12_bodies v12_ran v12_ownKind v12_ownNumber, (cI κ (r12 8) 40 f12_sheetOf), (cI κ (r12 9) 40 f12_placeOf), (cI κ (r12 10) 40 g3), (cI κ (r12 11) 40 g14), (cI κ (r12 12) 40 g67)] H := ⟨hP, hD⟩
                refine lv_aload_n hx hb dX12_findWorms_218 rfl (lv_at hl 5 rfl) ?_
                refine lv_dup hx hb dX12_findWorms_219 rfl ?_
                refine va_get (D := D) (ci := 12) (v := .int v13) (C := RX12) (T := TX12) (N := 63) hx hb hts w1 hown hK.1 hP 0 rfl rfl 13 (by decide) w2 (fun _ h9 => h9) rfl dX12_findWorms_220 ?_
                refine lv_iconst (v := 1) hx hb dX12_findWorms_223 (by decide) ?_
                refine lv_iadd hx hb dX12_findWorms_224 ?_
                refine lv_topi (fun x69 e70 => ?_)
                try have h71 : x69.toInt = v13.toInt + (1 : Int32).toInt := ci_add e70 (by omega) (by omega)
                refine va_put (D := D) (ci := 12) (v := .int x69) (ty := .int) (C := RX12) (T := TX12) (N := 63) hx hb hts w1 tyX12 tyX12_ok nmX12 hown hK.1 hP hD hS 0 rfl rfl 13 (by decide) w2 (fun _ h9 => h9) rfl (by decide +kernel) rfl rfl (Nat.le_of_ble_eq_true rfl) dX12_findWorms_225 (fun H locs hP hD hS => ?_)
                obtain ⟨hP, hD⟩ : PD D A [O12 a12 r12 v12_keptMany v12_done v12_sheets v12_holes x69 v12_laidMany v12_wanted v12_orderMany v12_firstOrder v12_lines v12_marks v12_dots v12_madeIn v12_bound v12_places v12_maps v12_tapeMany v12_stories v12_base v12_at v12_ends v12_fault v12_opened v12_bodies v12_ran v12_ownKind v12_ownNumber, (cI κ (r12 8) 40 f12_sheetOf), (cI κ (r12 9) 40 f12_placeOf), (cI κ (r12 10) 40 g3), (cI κ (r12 11) 40 g14), (cI κ (r12 12) 40 g67)] H := ⟨hP, hD⟩
                have h72 : 0 ≤ x69.toInt ∧ x69.toInt ≤ 40 := by omega
                refine lv_aload_n hx hb dX12_findWorms_228 rfl (lv_at hl 5 rfl) ?_
                refine va_get (D := D) (ci := 12) (v := .ref (r12 12)) (C := RX12) (T := TX12) (N := 63) hx hb hts w1 hown hK.1 hP 0 rfl rfl 12 (by decide) w5 (fun _ h9 => h9) rfl dX12_findWorms_229 ?_
                refine lv_aload_n hx hb dX12_findWorms_232 rfl (lv_at hl 5 rfl) ?_
                refine va_get (D := D) (ci := 12) (v := .int x69) (C := RX12) (T := TX12) (N := 63) hx hb hts w1 hown hK.1 hP 0 rfl rfl 13 (by decide) w2 (fun _ h9 => h9) rfl dX12_findWorms_233 ?_
                refine lv_iconst (v := 1) hx hb dX12_findWorms_236 (by decide) ?_
                refine lv_isub hx hb dX12_findWorms_237 ?_
                refine lv_topi (fun x73 e74 => ?_)
                try have h75 : x73.toInt = x69.toInt - (1 : Int32).toInt := ci_sub e74 (by omega) (by omega)
                refine lv_dup2_11 hx hb dX12_findWorms_238 rfl rfl ?_
                refine va_iald hx hb hK.1 hP 5 1 rfl rfl (i := x73) (ix (by omega) (by omega)) dX12_findWorms_239 ?_
                refine lv_topi (fun x76 e77 => ?_)
                refine lv_iload hx hb dX12_findWorms_240 (lv_at hl 1 rfl) ?_
                refine lv_ior hx hb dX12_findWorms_242 ?_
                refine lv_topi (fun x78 e79 => ?_)
                refine va_iast hx hb hK.1 hP hD hS 5 1 rfl rfl (i := x73) (ix (by omega) (by omega)) dX12_findWorms_243 (fun H locs hP hD hS => ?_)
                obtain ⟨g80, e81⟩ : ∃ y : Nat → Int32, y = upd g67 x73.toNatClampNeg x78 := ⟨_, rfl⟩
                rw [← e81] at hP hD
                obtain ⟨hP, hD⟩ : PD D A [O12 a12 r12 v12_keptMany v12_done v12_sheets v12_holes x69 v12_laidMany v12_wanted v12_orderMany v12_firstOrder v12_lines v12_marks v12_dots v12_madeIn v12_bound v12_places v12_maps v12_tapeMany v12_stories v12_base v12_at v12_ends v12_fault v12_opened v12_bodies v12_ran v12_ownKind v12_ownNumber, (cI κ (r12 8) 40 f12_sheetOf), (cI κ (r12 9) 40 f12_placeOf), (cI κ (r12 10) 40 g3), (cI κ (r12 11) 40 g14), (cI κ (r12 12) 40 g80)] H := ⟨hP, hD⟩
                refine lv_aload_n hx hb dX12_findWorms_244 rfl (lv_at hl 5 rfl) ?_
                refine va_get (D := D) (ci := 12) (v := .ref (r12 11)) (C := RX12) (T := TX12) (N := 63) hx hb hts w1 hown hK.1 hP 0 rfl rfl 11 (by decide) w6 (fun _ h9 => h9) rfl dX12_findWorms_245 ?_
                refine lv_iload hx hb dX12_findWorms_248 (lv_at hl 2 rfl) ?_
                refine lv_aload_n hx hb dX12_findWorms_250 rfl (lv_at hl 5 rfl) ?_
                refine va_get (D := D) (ci := 12) (v := .int x69) (C := RX12) (T := TX12) (N := 63) hx hb hts w1 hown hK.1 hP 0 rfl rfl 13 (by decide) w2 (fun _ h9 => h9) rfl dX12_findWorms_251 ?_
                refine lv_iconst (v := 1) hx hb dX12_findWorms_254 (by decide) ?_
                refine lv_isub hx hb dX12_findWorms_255 ?_
                refine lv_topi (fun x82 e83 => ?_)
                try have h84 : x82.toInt = x69.toInt - (1 : Int32).toInt := ci_sub e83 (by omega) (by omega)
                refine va_iast hx hb hK.1 hP hD hS 4 1 rfl rfl (i := x22) (ix (by omega) (by omega)) dX12_findWorms_256 (fun H locs hP hD hS => ?_)
                obtain ⟨g85, e86⟩ : ∃ y : Nat → Int32, y = upd g14 x22.toNatClampNeg x82 := ⟨_, rfl⟩
                rw [← e86] at hP hD
                obtain ⟨hP, hD⟩ : PD D A [O12 a12 r12 v12_keptMany v12_done v12_sheets v12_holes x69 v12_laidMany v12_wanted v12_orderMany v12_firstOrder v12_lines v12_marks v12_dots v12_madeIn v12_bound v12_places v12_maps v12_tapeMany v12_stories v12_base v12_at v12_ends v12_fault v12_opened v12_bodies v12_ran v12_ownKind v12_ownNumber, (cI κ (r12 8) 40 f12_sheetOf), (cI κ (r12 9) 40 f12_placeOf), (cI κ (r12 10) 40 g3), (cI κ (r12 11) 40 g85), (cI κ (r12 12) 40 g80)] H := ⟨hP, hD⟩
                obtain ⟨x87, e88⟩ : ∃ y : Int32, y = k12 + 1 := ⟨_, rfl⟩
                refine lv_iinc (v := x87) (lv' := [(4, .int x87), (7, .int 0), (6, .int x27), (5, .int x22), (3, .int k2), (0, .ref a12), (1, .int p1), (2, .int p2)]) hx hb dX12_findWorms_257 hl (k := 3) rfl (by rw [e88]; rfl) (by decide) rfl (fun ls hl => ?_)
                try have h89 : x87.toInt = k12.toInt + (1 : Int32).toInt := ci_add e88 (by omega) (by omega)
                refine lv_goto (tgt := 113) hx hb dX12_findWorms_260 (by decide) ?_
                exact ih113 x87 x69 g85 g80 h72 (by omega) (by omega) (by omega) (by omega) _ _ hP hD hS _ (lv_sub hl [0, 4, 5, 6, 7] rfl)
              have c65 := ci_nlt c65
              refine lv_aload_n hx hb dX12_findWorms_179 rfl (lv_at hl 4 rfl) ?_
              refine va_get (D := D) (ci := 12) (v := .ref (r12 12)) (C := RX12) (T := TX12) (N := 63) hx hb hts w1 hown hK.1 hP 0 rfl rfl 12 (by decide) w5 (fun _ h9 => h9) rfl dX12_findWorms_180 ?_
              refine lv_aload_n hx hb dX12_findWorms_183 rfl (lv_at hl 4 rfl) ?_
              refine va_get (D := D) (ci := 12) (v := .int v13) (C := RX12) (T := TX12) (N := 63) hx hb hts w1 hown hK.1 hP 0 rfl rfl 13 (by decide) w2 (fun _ h9 => h9) rfl dX12_findWorms_184 ?_
              refine lv_iconst (v := 1) hx hb dX12_findWorms_187 (by decide) ?_
              refine lv_isub hx hb dX12_findWorms_188 ?_
              refine lv_topi (fun x90 e91 => ?_)
              try have h92 : x90.toInt = v13.toInt - (1 : Int32).toInt := ci_sub e91 (by omega) (by omega)
              refine va_iald hx hb hK.1 hP 5 1 rfl rfl (i := x90) (ix (by omega) (by omega)) dX12_findWorms_189 ?_
              refine lv_topi (fun x93 e94 => ?_)
              refine lv_iload hx hb dX12_findWorms_190 (lv_at hl 0 rfl) ?_
              refine lv_iand hx hb dX12_findWorms_192 ?_
              refine lv_topi (fun x95 e96 => ?_)
              refine lv_if_ne (tgt := 200) hx hb dX12_findWorms_193 (by decide) (fun c97 => ?_) (fun c97 => ?_)
              · have c97 := ci_ne c97
                refine lv_iconst (v := 0) hx hb dX12_findWorms_200 (by decide) ?_
                refine lv_istore (lv' := [(7, .int 0), (6, .int x27), (5, .int x22), (4, .int k12), (3, .int k2), (0, .ref a12), (1, .int p1), (2, .int p2)]) hx hb dX12_findWorms_201 hl (by decide) rfl (fun ls hl => ?_)
                refine lv_iload hx hb dX12_findWorms_203 (lv_at hl 0 rfl) ?_
                refine lv_if_ne (tgt := 228) hx hb dX12_findWorms_205 (by decide) (fun c98 => ?_) (fun c98 => ?_)
                · have c98 := ci_ne c98
                  exfalso
                  omega
                have c98 := ci_eq c98
                refine lv_aload_n hx hb dX12_findWorms_208 rfl (lv_at hl 5 rfl) ?_
                refine va_get (D := D) (ci := 12) (v := .ref (r12 12)) (C := RX12) (T := TX12) (N := 63) hx hb hts w1 hown hK.1 hP 0 rfl rfl 12 (by decide) w5 (fun _ h9 => h9) rfl dX12_findWorms_209 ?_
                refine lv_aload_n hx hb dX12_findWorms_212 rfl (lv_at hl 5 rfl) ?_
                refine va_get (D := D) (ci := 12) (v := .int v13) (C := RX12) (T := TX12) (N := 63) hx hb hts w1 hown hK.1 hP 0 rfl rfl 13 (by decide) w2 (fun _ h9 => h9) rfl dX12_findWorms_213 ?_
                refine lv_iconst (v := 0) hx hb dX12_findWorms_216 (by decide) ?_
                refine va_iast hx hb hK.1 hP hD hS 5 1 rfl rfl (i := v13) (ix (by omega) (by omega)) dX12_findWorms_217 (fun H locs hP hD hS => ?_)
                obtain ⟨g99, e100⟩ : ∃ y : Nat → Int32, y = upd g15 v13.toNatClampNeg 0 := ⟨_, rfl⟩
                rw [← e100] at hP hD
                obtain ⟨hP, hD⟩ : PD D A [O12 a12 r12 v12_keptMany v12_done v12_sheets v12_holes v13 v12_laidMany v12_wanted v12_orderMany v12_firstOrder v12_lines v12_marks v12_dots v12_madeIn v12_bound v12_places v12_maps v12_tapeMany v12_stories v12_base v12_at v12_ends v12_fault v12_opened v12_bodies v12_ran v12_ownKind v12_ownNumber, (cI κ (r12 8) 40 f12_sheetOf), (cI κ (r12 9) 40 f12_placeOf), (cI κ (r12 10) 40 g3), (cI κ (r12 11) 40 g14), (cI κ (r12 12) 40 g99)] H := ⟨hP, hD⟩
                refine lv_aload_n hx hb dX12_findWorms_218 rfl (lv_at hl 5 rfl) ?_
                refine lv_dup hx hb dX12_findWorms_219 rfl ?_
                refine va_get (D := D) (ci := 12) (v := .int v13) (C := RX12) (T := TX12) (N := 63) hx hb hts w1 hown hK.1 hP 0 rfl rfl 13 (by decide) w2 (fun _ h9 => h9) rfl dX12_findWorms_220 ?_
                refine lv_iconst (v := 1) hx hb dX12_findWorms_223 (by decide) ?_
                refine lv_iadd hx hb dX12_findWorms_224 ?_
                refine lv_topi (fun x101 e102 => ?_)
                try have h103 : x101.toInt = v13.toInt + (1 : Int32).toInt := ci_add e102 (by omega) (by omega)
                refine va_put (D := D) (ci := 12) (v := .int x101) (ty := .int) (C := RX12) (T := TX12) (N := 63) hx hb hts w1 tyX12 tyX12_ok nmX12 hown hK.1 hP hD hS 0 rfl rfl 13 (by decide) w2 (fun _ h9 => h9) rfl (by decide +kernel) rfl rfl (Nat.le_of_ble_eq_true rfl) dX12_findWorms_225 (fun H locs hP hD hS => ?_)
                obtain ⟨hP, hD⟩ : PD D A [O12 a12 r12 v12_keptMany v12_done v12_sheets v12_holes x101 v12_laidMany v12_wanted v12_orderMany v12_firstOrder v12_lines v12_marks v12_dots v12_madeIn v12_bound v12_places v12_maps v12_tapeMany v12_stories v12_base v12_at v12_ends v12_fault v12_opened v12_bodies v12_ran v12_ownKind v12_ownNumber, (cI κ (r12 8) 40 f12_sheetOf), (cI κ (r12 9) 40 f12_placeOf), (cI κ (r12 10) 40 g3), (cI κ (r12 11) 40 g14), (cI κ (r12 12) 40 g99)] H := ⟨hP, hD⟩
                have h104 : 0 ≤ x101.toInt ∧ x101.toInt ≤ 40 := by omega
                refine lv_aload_n hx hb dX12_findWorms_228 rfl (lv_at hl 5 rfl) ?_
                refine va_get (D := D) (ci := 12) (v := .ref (r12 12)) (C := RX12) (T := TX12) (N := 63) hx hb hts w1 hown hK.1 hP 0 rfl rfl 12 (by decide) w5 (fun _ h9 => h9) rfl dX12_findWorms_229 ?_
                refine lv_aload_n hx hb dX12_findWorms_232 rfl (lv_at hl 5 rfl) ?_
                refine va_get (D := D) (ci := 12) (v := .int x101) (C := RX12) (T := TX12) (N := 63) hx hb hts w1 hown hK.1 hP 0 rfl rfl 13 (by decide) w2 (fun _ h9 => h9) rfl dX12_findWorms_233 ?_
                refine lv_iconst (v := 1) hx hb dX12_findWorms_236 (by decide) ?_
                refine lv_isub hx hb dX12_findWorms_237 ?_
                refine lv_topi (fun x105 e106 => ?_)
                try have h107 : x105.toInt = x101.toInt - (1 : Int32).toInt := ci_sub e106 (by omega) (by omega)
                refine lv_dup2_11 hx hb dX12_findWorms_238 rfl rfl ?_
                refine va_iald hx hb hK.1 hP 5 1 rfl rfl (i := x105) (ix (by omega) (by omega)) dX12_findWorms_239 ?_
                refine lv_topi (fun x108 e109 => ?_)
                refine lv_iload hx hb dX12_findWorms_240 (lv_at hl 1 rfl) ?_
                refine lv_ior hx hb dX12_findWorms_242 ?_
                refine lv_topi (fun x110 e111 => ?_)
                refine va_iast hx hb hK.1 hP hD hS 5 1 rfl rfl (i := x105) (ix (by omega) (by omega)) dX12_findWorms_243 (fun H locs hP hD hS => ?_)
                obtain ⟨g112, e113⟩ : ∃ y : Nat → Int32, y = upd g99 x105.toNatClampNeg x110 := ⟨_, rfl⟩
                rw [← e113] at hP hD
                obtain ⟨hP, hD⟩ : PD D A [O12 a12 r12 v12_keptMany v12_done v12_sheets v12_holes x101 v12_laidMany v12_wanted v12_orderMany v12_firstOrder v12_lines v12_marks v12_dots v12_madeIn v12_bound v12_places v12_maps v12_tapeMany v12_stories v12_base v12_at v12_ends v12_fault v12_opened v12_bodies v12_ran v12_ownKind v12_ownNumber, (cI κ (r12 8) 40 f12_sheetOf), (cI κ (r12 9) 40 f12_placeOf), (cI κ (r12 10) 40 g3), (cI κ (r12 11) 40 g14), (cI κ (r12 12) 40 g112)] H := ⟨hP, hD⟩
                refine lv_aload_n hx hb dX12_findWorms_244 rfl (lv_at hl 5 rfl) ?_
                refine va_get (D := D) (ci := 12) (v := .ref (r12 11)) (C := RX12) (T := TX12) (N := 63) hx hb hts w1 hown hK.1 hP 0 rfl rfl 11 (by decide) w6 (fun _ h9 => h9) rfl dX12_findWorms_245 ?_
                refine lv_iload hx hb dX12_findWorms_248 (lv_at hl 2 rfl) ?_
                refine lv_aload_n hx hb dX12_findWorms_250 rfl (lv_at hl 5 rfl) ?_
                refine va_get (D := D) (ci := 12) (v := .int x101) (C := RX12) (T := TX12) (N := 63) hx hb hts w1 hown hK.1 hP 0 rfl rfl 13 (by decide) w2 (fun _ h9 => h9) rfl dX12_findWorms_251 ?_
                refine lv_iconst (v := 1) hx hb dX12_findWorms_254 (by decide) ?_
                refine lv_isub hx hb dX12_findWorms_255 ?_
                refine lv_topi (fun x114 e115 => ?_)
                try have h116 : x114.toInt = x101.toInt - (1 : Int32).toInt := ci_sub e115 (by omega) (by omega)
                refine va_iast hx hb hK.1 hP hD hS 4 1 rfl rfl (i := x22) (ix (by omega) (by omega)) dX12_findWorms_256 (fun H locs hP hD hS => ?_)
                obtain ⟨g117, e118⟩ : ∃ y : Nat → Int32, y = upd g14 x22.toNatClampNeg x114 := ⟨_, rfl⟩
                rw [← e118] at hP hD
                obtain ⟨hP, hD⟩ : PD D A [O12 a12 r12 v12_keptMany v12_done v12_sheets v12_holes x101 v12_laidMany v12_wanted v12_orderMany v12_firstOrder v12_lines v12_marks v12_dots v12_madeIn v12_bound v12_places v12_maps v12_tapeMany v12_stories v12_base v12_at v12_ends v12_fault v12_opened v12_bodies v12_ran v12_ownKind v12_ownNumber, (cI κ (r12 8) 40 f12_sheetOf), (cI κ (r12 9) 40 f12_placeOf), (cI κ (r12 10) 40 g3), (cI κ (r12 11) 40 g117), (cI κ (r12 12) 40 g112)] H := ⟨hP, hD⟩
                obtain ⟨x119, e120⟩ : ∃ y : Int32, y = k12 + 1 := ⟨_, rfl⟩
                refine lv_iinc (v := x119) (lv' := [(4, .int x119), (7, .int 0), (6, .int x27), (5, .int x22), (3, .int k2), (0, .ref a12), (1, .int p1), (2, .int p2)]) hx hb dX12_findWorms_257 hl (k := 3) rfl (by rw [e120]; rfl) (by decide) rfl (fun ls hl => ?_)
                try have h121 : x119.toInt = k12.toInt + (1 : Int32).toInt := ci_add e120 (by omega) (by omega)
                refine lv_goto (tgt := 113) hx hb dX12_findWorms_260 (by decide) ?_
                exact ih113 x119 x101 g117 g112 h104 (by omega) (by omega) (by omega) (by omega) _ _ hP hD hS _ (lv_sub hl [0, 4, 5, 6, 7] rfl)
              have c97 := ci_eq c97
              refine lv_iconst (v := 1) hx hb dX12_findWorms_196 (by decide) ?_
              refine lv_goto (tgt := 201) hx hb dX12_findWorms_197 (by decide) ?_
              refine lv_istore (lv' := [(7, .int 1), (6, .int x27), (5, .int x22), (4, .int k12), (3, .int k2), (0, .ref a12), (1, .int p1), (2, .int p2)]) hx hb dX12_findWorms_201 hl (by decide) rfl (fun ls hl => ?_)
              refine lv_iload hx hb dX12_findWorms_203 (lv_at hl 0 rfl) ?_
              refine lv_if_ne (tgt := 228) hx hb dX12_findWorms_205 (by decide) (fun c122 => ?_) (fun c122 => ?_)
              · have c122 := ci_ne c122
                refine lv_aload_n hx hb dX12_findWorms_228 rfl (lv_at hl 5 rfl) ?_
                refine va_get (D := D) (ci := 12) (v := .ref (r12 12)) (C := RX12) (T := TX12) (N := 63) hx hb hts w1 hown hK.1 hP 0 rfl rfl 12 (by decide) w5 (fun _ h9 => h9) rfl dX12_findWorms_229 ?_
                refine lv_aload_n hx hb dX12_findWorms_232 rfl (lv_at hl 5 rfl) ?_
                refine va_get (D := D) (ci := 12) (v := .int v13) (C := RX12) (T := TX12) (N := 63) hx hb hts w1 hown hK.1 hP 0 rfl rfl 13 (by decide) w2 (fun _ h9 => h9) rfl dX12_findWorms_233 ?_
                refine lv_iconst (v := 1) hx hb dX12_findWorms_236 (by decide) ?_
                refine lv_isub hx hb dX12_findWorms_237 ?_
                refine lv_topi (fun x123 e124 => ?_)
                try have h125 : x123.toInt = v13.toInt - (1 : Int32).toInt := ci_sub e124 (by omega) (by omega)
                refine lv_dup2_11 hx hb dX12_findWorms_238 rfl rfl ?_
                refine va_iald hx hb hK.1 hP 5 1 rfl rfl (i := x123) (ix (by omega) (by omega)) dX12_findWorms_239 ?_
                refine lv_topi (fun x126 e127 => ?_)
                refine lv_iload hx hb dX12_findWorms_240 (lv_at hl 1 rfl) ?_
                refine lv_ior hx hb dX12_findWorms_242 ?_
                refine lv_topi (fun x128 e129 => ?_)
                refine va_iast hx hb hK.1 hP hD hS 5 1 rfl rfl (i := x123) (ix (by omega) (by omega)) dX12_findWorms_243 (fun H locs hP hD hS => ?_)
                obtain ⟨g130, e131⟩ : ∃ y : Nat → Int32, y = upd g15 x123.toNatClampNeg x128 := ⟨_, rfl⟩
                rw [← e131] at hP hD
                obtain ⟨hP, hD⟩ : PD D A [O12 a12 r12 v12_keptMany v12_done v12_sheets v12_holes v13 v12_laidMany v12_wanted v12_orderMany v12_firstOrder v12_lines v12_marks v12_dots v12_madeIn v12_bound v12_places v12_maps v12_tapeMany v12_stories v12_base v12_at v12_ends v12_fault v12_opened v12_bodies v12_ran v12_ownKind v12_ownNumber, (cI κ (r12 8) 40 f12_sheetOf), (cI κ (r12 9) 40 f12_placeOf), (cI κ (r12 10) 40 g3), (cI κ (r12 11) 40 g14), (cI κ (r12 12) 40 g130)] H := ⟨hP, hD⟩
                refine lv_aload_n hx hb dX12_findWorms_244 rfl (lv_at hl 5 rfl) ?_
                refine va_get (D := D) (ci := 12) (v := .ref (r12 11)) (C := RX12) (T := TX12) (N := 63) hx hb hts w1 hown hK.1 hP 0 rfl rfl 11 (by decide) w6 (fun _ h9 => h9) rfl dX12_findWorms_245 ?_
                refine lv_iload hx hb dX12_findWorms_248 (lv_at hl 2 rfl) ?_
                refine lv_aload_n hx hb dX12_findWorms_250 rfl (lv_at hl 5 rfl) ?_
                refine va_get (D := D) (ci := 12) (v := .int v13) (C := RX12) (T := TX12) (N := 63) hx hb hts w1 hown hK.1 hP 0 rfl rfl 13 (by decide) w2 (fun _ h9 => h9) rfl dX12_findWorms_251 ?_
                refine lv_iconst (v := 1) hx hb dX12_findWorms_254 (by decide) ?_
                refine lv_isub hx hb dX12_findWorms_255 ?_
                refine lv_topi (fun x132 e133 => ?_)
                try have h134 : x132.toInt = v13.toInt - (1 : Int32).toInt := ci_sub e133 (by omega) (by omega)
                refine va_iast hx hb hK.1 hP hD hS 4 1 rfl rfl (i := x22) (ix (by omega) (by omega)) dX12_findWorms_256 (fun H locs hP hD hS => ?_)
                obtain ⟨g135, e136⟩ : ∃ y : Nat → Int32, y = upd g14 x22.toNatClampNeg x132 := ⟨_, rfl⟩
                rw [← e136] at hP hD
                obtain ⟨hP, hD⟩ : PD D A [O12 a12 r12 v12_keptMany v12_done v12_sheets v12_holes v13 v12_laidMany v12_wanted v12_orderMany v12_firstOrder v12_lines v12_marks v12_dots v12_madeIn v12_bound v12_places v12_maps v12_tapeMany v12_stories v12_base v12_at v12_ends v12_fault v12_opened v12_bodies v12_ran v12_ownKind v12_ownNumber, (cI κ (r12 8) 40 f12_sheetOf), (cI κ (r12 9) 40 f12_placeOf), (cI κ (r12 10) 40 g3), (cI κ (r12 11) 40 g135), (cI κ (r12 12) 40 g130)] H := ⟨hP, hD⟩
                obtain ⟨x137, e138⟩ : ∃ y : Int32, y = k12 + 1 := ⟨_, rfl⟩
                refine lv_iinc (v := x137) (lv' := [(4, .int x137), (7, .int 1), (6, .int x27), (5, .int x22), (3, .int k2), (0, .ref a12), (1, .int p1), (2, .int p2)]) hx hb dX12_findWorms_257 hl (k := 3) rfl (by rw [e138]; rfl) (by decide) rfl (fun ls hl => ?_)
                try have h139 : x137.toInt = k12.toInt + (1 : Int32).toInt := ci_add e138 (by omega) (by omega)
                refine lv_goto (tgt := 113) hx hb dX12_findWorms_260 (by decide) ?_
                exact ih113 x137 v13 g135 g130 h16 (by omega) (by omega) (by omega) (by omega) _ _ hP hD hS _ (lv_sub hl [0, 4, 5, 6, 7] rfl)
              have c122 := ci_eq c122
              exfalso
              omega
            have c56 := ci_nle c56
            refine lv_iload hx hb dX12_findWorms_164 (lv_at hl 2 rfl) ?_
            refine lv_iconst (v := 1) hx hb dX12_findWorms_166 (by decide) ?_
            refine lv_isub hx hb dX12_findWorms_167 ?_
            refine lv_topi (fun x140 e141 => ?_)
            try have h142 : x140.toInt = k12.toInt - (1 : Int32).toInt := ci_sub e141 (by omega) (by omega)
            refine lv_goto (tgt := 172) hx hb dX12_findWorms_168 (by decide) ?_
            refine va_iald hx hb hK.1 hP 3 1 rfl rfl (i := x140) (ix (by omega) (by omega)) dX12_findWorms_172 ?_
            refine lv_topi (fun x143 e144 => ?_)
            have h145 : 0 ≤ x143.toInt ∧ x143.toInt ≤ 39 := by rw [e144]; exact h4 _
            refine va_iald hx hb hK.1 hP 2 1 rfl rfl (i := x143) (ix (by omega) (by omega)) dX12_findWorms_173 ?_
            refine lv_topi (fun x146 e147 => ?_)
            refine lv_isub hx hb dX12_findWorms_174 ?_
            refine lv_topi (fun x148 e149 => ?_)
            try have h150 : x148.toInt = x54.toInt - x146.toInt := ci_sub e149 (by omega) (by omega)
            refine lv_iload_n hx hb dX12_findWorms_175 rfl (lv_at hl 5 rfl) ?_
            refine lv_icmp_gt (tgt := 200) hx hb dX12_findWorms_176 (by decide) (fun c151 => ?_) (fun c151 => ?_)
            · have c151 := ci_lt c151
              refine lv_iconst (v := 0) hx hb dX12_findWorms_200 (by decide) ?_
              refine lv_istore (lv' := [(7, .int 0), (6, .int x27), (5, .int x22), (4, .int k12), (3, .int k2), (0, .ref a12), (1, .int p1), (2, .int p2)]) hx hb dX12_findWorms_201 hl (by decide) rfl (fun ls hl => ?_)
              refine lv_iload hx hb dX12_findWorms_203 (lv_at hl 0 rfl) ?_
              refine lv_if_ne (tgt := 228) hx hb dX12_findWorms_205 (by decide) (fun c152 => ?_) (fun c152 => ?_)
              · have c152 := ci_ne c152
                exfalso
                omega
              have c152 := ci_eq c152
              refine lv_aload_n hx hb dX12_findWorms_208 rfl (lv_at hl 5 rfl) ?_
              refine va_get (D := D) (ci := 12) (v := .ref (r12 12)) (C := RX12) (T := TX12) (N := 63) hx hb hts w1 hown hK.1 hP 0 rfl rfl 12 (by decide) w5 (fun _ h9 => h9) rfl dX12_findWorms_209 ?_
              refine lv_aload_n hx hb dX12_findWorms_212 rfl (lv_at hl 5 rfl) ?_
              refine va_get (D := D) (ci := 12) (v := .int v13) (C := RX12) (T := TX12) (N := 63) hx hb hts w1 hown hK.1 hP 0 rfl rfl 13 (by decide) w2 (fun _ h9 => h9) rfl dX12_findWorms_213 ?_
              refine lv_iconst (v := 0) hx hb dX12_findWorms_216 (by decide) ?_
              refine va_iast hx hb hK.1 hP hD hS 5 1 rfl rfl (i := v13) (ix (by omega) (by omega)) dX12_findWorms_217 (fun H locs hP hD hS => ?_)
              obtain ⟨g153, e154⟩ : ∃ y : Nat → Int32, y = upd g15 v13.toNatClampNeg 0 := ⟨_, rfl⟩
              rw [← e154] at hP hD
              obtain ⟨hP, hD⟩ : PD D A [O12 a12 r12 v12_keptMany v12_done v12_sheets v12_holes v13 v12_laidMany v12_wanted v12_orderMany v12_firstOrder v12_lines v12_marks v12_dots v12_madeIn v12_bound v12_places v12_maps v12_tapeMany v12_stories v12_base v12_at v12_ends v12_fault v12_opened v12_bodies v12_ran v12_ownKind v12_ownNumber, (cI κ (r12 8) 40 f12_sheetOf), (cI κ (r12 9) 40 f12_placeOf), (cI κ (r12 10) 40 g3), (cI κ (r12 11) 40 g14), (cI κ (r12 12) 40 g153)] H := ⟨hP, hD⟩
              refine lv_aload_n hx hb dX12_findWorms_218 rfl (lv_at hl 5 rfl) ?_
              refine lv_dup hx hb dX12_findWorms_219 rfl ?_
              refine va_get (D := D) (ci := 12) (v := .int v13) (C := RX12) (T := TX12) (N := 63) hx hb hts w1 hown hK.1 hP 0 rfl rfl 13 (by decide) w2 (fun _ h9 => h9) rfl dX12_findWorms_220 ?_
              refine lv_iconst (v := 1) hx hb dX12_findWorms_223 (by decide) ?_
              refine lv_iadd hx hb dX12_findWorms_224 ?_
              refine lv_topi (fun x155 e156 => ?_)
              try have h157 : x155.toInt = v13.toInt + (1 : Int32).toInt := ci_add e156 (by omega) (by omega)
              refine va_put (D := D) (ci := 12) (v := .int x155) (ty := .int) (C := RX12) (T := TX12) (N := 63) hx hb hts w1 tyX12 tyX12_ok nmX12 hown hK.1 hP hD hS 0 rfl rfl 13 (by decide) w2 (fun _ h9 => h9) rfl (by decide +kernel) rfl rfl (Nat.le_of_ble_eq_true rfl) dX12_findWorms_225 (fun H locs hP hD hS => ?_)
              obtain ⟨hP, hD⟩ : PD D A [O12 a12 r12 v12_keptMany v12_done v12_sheets v12_holes x155 v12_laidMany v12_wanted v12_orderMany v12_firstOrder v12_lines v12_marks v12_dots v12_madeIn v12_bound v12_places v12_maps v12_tapeMany v12_stories v12_base v12_at v12_ends v12_fault v12_opened v12_bodies v12_ran v12_ownKind v12_ownNumber, (cI κ (r12 8) 40 f12_sheetOf), (cI κ (r12 9) 40 f12_placeOf), (cI κ (r12 10) 40 g3), (cI κ (r12 11) 40 g14), (cI κ (r12 12) 40 g153)] H := ⟨hP, hD⟩
              have h158 : 0 ≤ x155.toInt ∧ x155.toInt ≤ 40 := by omega
              refine lv_aload_n hx hb dX12_findWorms_228 rfl (lv_at hl 5 rfl) ?_
              refine va_get (D := D) (ci := 12) (v := .ref (r12 12)) (C := RX12) (T := TX12) (N := 63) hx hb hts w1 hown hK.1 hP 0 rfl rfl 12 (by decide) w5 (fun _ h9 => h9) rfl dX12_findWorms_229 ?_
              refine lv_aload_n hx hb dX12_findWorms_232 rfl (lv_at hl 5 rfl) ?_
              refine va_get (D := D) (ci := 12) (v := .int x155) (C := RX12) (T := TX12) (N := 63) hx hb hts w1 hown hK.1 hP 0 rfl rfl 13 (by decide) w2 (fun _ h9 => h9) rfl dX12_findWorms_233 ?_
              refine lv_iconst (v := 1) hx hb dX12_findWorms_236 (by decide) ?_
              refine lv_isub hx hb dX12_findWorms_237 ?_
              refine lv_topi (fun x159 e160 => ?_)
              try have h161 : x159.toInt = x155.toInt - (1 : Int32).toInt := ci_sub e160 (by omega) (by omega)
              refine lv_dup2_11 hx hb dX12_findWorms_238 rfl rfl ?_
              refine va_iald hx hb hK.1 hP 5 1 rfl rfl (i := x159) (ix (by omega) (by omega)) dX12_findWorms_239 ?_
              refine lv_topi (fun x162 e163 => ?_)
              refine lv_iload hx hb dX12_findWorms_240 (lv_at hl 1 rfl) ?_
              refine lv_ior hx hb dX12_findWorms_242 ?_
              refine lv_topi (fun x164 e165 => ?_)
              refine va_iast hx hb hK.1 hP hD hS 5 1 rfl rfl (i := x159) (ix (by omega) (by omega)) dX12_findWorms_243 (fun H locs hP hD hS => ?_)
              obtain ⟨g166, e167⟩ : ∃ y : Nat → Int32, y = upd g153 x159.toNatClampNeg x164 := ⟨_, rfl⟩
              rw [← e167] at hP hD
              obtain ⟨hP, hD⟩ : PD D A [O12 a12 r12 v12_keptMany v12_done v12_sheets v12_holes x155 v12_laidMany v12_wanted v12_orderMany v12_firstOrder v12_lines v12_marks v12_dots v12_madeIn v12_bound v12_places v12_maps v12_tapeMany v12_stories v12_base v12_at v12_ends v12_fault v12_opened v12_bodies v12_ran v12_ownKind v12_ownNumber, (cI κ (r12 8) 40 f12_sheetOf), (cI κ (r12 9) 40 f12_placeOf), (cI κ (r12 10) 40 g3), (cI κ (r12 11) 40 g14), (cI κ (r12 12) 40 g166)] H := ⟨hP, hD⟩
              refine lv_aload_n hx hb dX12_findWorms_244 rfl (lv_at hl 5 rfl) ?_
              refine va_get (D := D) (ci := 12) (v := .ref (r12 11)) (C := RX12) (T := TX12) (N := 63) hx hb hts w1 hown hK.1 hP 0 rfl rfl 11 (by decide) w6 (fun _ h9 => h9) rfl dX12_findWorms_245 ?_
              refine lv_iload hx hb dX12_findWorms_248 (lv_at hl 2 rfl) ?_
              refine lv_aload_n hx hb dX12_findWorms_250 rfl (lv_at hl 5 rfl) ?_
              refine va_get (D := D) (ci := 12) (v := .int x155) (C := RX12) (T := TX12) (N := 63) hx hb hts w1 hown hK.1 hP 0 rfl rfl 13 (by decide) w2 (fun _ h9 => h9) rfl dX12_findWorms_251 ?_
              refine lv_iconst (v := 1) hx hb dX12_findWorms_254 (by decide) ?_
              refine lv_isub hx hb dX12_findWorms_255 ?_
              refine lv_topi (fun x168 e169 => ?_)
              try have h170 : x168.toInt = x155.toInt - (1 : Int32).toInt := ci_sub e169 (by omega) (by omega)
              refine va_iast hx hb hK.1 hP hD hS 4 1 rfl rfl (i := x22) (ix (by omega) (by omega)) dX12_findWorms_256 (fun H locs hP hD hS => ?_)
              obtain ⟨g171, e172⟩ : ∃ y : Nat → Int32, y = upd g14 x22.toNatClampNeg x168 := ⟨_, rfl⟩
              rw [← e172] at hP hD
              obtain ⟨hP, hD⟩ : PD D A [O12 a12 r12 v12_keptMany v12_done v12_sheets v12_holes x155 v12_laidMany v12_wanted v12_orderMany v12_firstOrder v12_lines v12_marks v12_dots v12_madeIn v12_bound v12_places v12_maps v12_tapeMany v12_stories v12_base v12_at v12_ends v12_fault v12_opened v12_bodies v12_ran v12_ownKind v12_ownNumber, (cI κ (r12 8) 40 f12_sheetOf), (cI κ (r12 9) 40 f12_placeOf), (cI κ (r12 10) 40 g3), (cI κ (r12 11) 40 g171), (cI κ (r12 12) 40 g166)] H := ⟨hP, hD⟩
              obtain ⟨x173, e174⟩ : ∃ y : Int32, y = k12 + 1 := ⟨_, rfl⟩
              refine lv_iinc (v := x173) (lv' := [(4, .int x173), (7, .int 0), (6, .int x27), (5, .int x22), (3, .int k2), (0, .ref a12), (1, .int p1), (2, .int p2)]) hx hb dX12_findWorms_257 hl (k := 3) rfl (by rw [e174]; rfl) (by decide) rfl (fun ls hl => ?_)
              try have h175 : x173.toInt = k12.toInt + (1 : Int32).toInt := ci_add e174 (by omega) (by omega)
              refine lv_goto (tgt := 113) hx hb dX12_findWorms_260 (by decide) ?_
              exact ih113 x173 x155 g171 g166 h158 (by omega) (by omega) (by omega) (by omega) _ _ hP hD hS _ (lv_sub hl [0, 4, 5, 6, 7] rfl)
            have c151 := ci_nlt c151
            refine lv_aload_n hx hb dX12_findWorms_179 rfl (lv_at hl 4 rfl) ?_
            refine va_get (D := D) (ci := 12) (v := .ref (r12 12)) (C := RX12) (T := TX12) (N := 63) hx hb hts w1 hown hK.1 hP 0 rfl rfl 12 (by decide) w5 (fun _ h9 => h9) rfl dX12_findWorms_180 ?_
            refine lv_aload_n hx hb dX12_findWorms_183 rfl (lv_at hl 4 rfl) ?_
            refine va_get (D := D) (ci := 12) (v := .int v13) (C := RX12) (T := TX12) (N := 63) hx hb hts w1 hown hK.1 hP 0 rfl rfl 13 (by decide) w2 (fun _ h9 => h9) rfl dX12_findWorms_184 ?_
            refine lv_iconst (v := 1) hx hb dX12_findWorms_187 (by decide) ?_
            refine lv_isub hx hb dX12_findWorms_188 ?_
            refine lv_topi (fun x176 e177 => ?_)
            try have h178 : x176.toInt = v13.toInt - (1 : Int32).toInt := ci_sub e177 (by omega) (by omega)
            refine va_iald hx hb hK.1 hP 5 1 rfl rfl (i := x176) (ix (by omega) (by omega)) dX12_findWorms_189 ?_
            refine lv_topi (fun x179 e180 => ?_)
            refine lv_iload hx hb dX12_findWorms_190 (lv_at hl 0 rfl) ?_
            refine lv_iand hx hb dX12_findWorms_192 ?_
            refine lv_topi (fun x181 e182 => ?_)
            refine lv_if_ne (tgt := 200) hx hb dX12_findWorms_193 (by decide) (fun c183 => ?_) (fun c183 => ?_)
            · have c183 := ci_ne c183
              refine lv_iconst (v := 0) hx hb dX12_findWorms_200 (by decide) ?_
              refine lv_istore (lv' := [(7, .int 0), (6, .int x27), (5, .int x22), (4, .int k12), (3, .int k2), (0, .ref a12), (1, .int p1), (2, .int p2)]) hx hb dX12_findWorms_201 hl (by decide) rfl (fun ls hl => ?_)
              refine lv_iload hx hb dX12_findWorms_203 (lv_at hl 0 rfl) ?_
              refine lv_if_ne (tgt := 228) hx hb dX12_findWorms_205 (by decide) (fun c184 => ?_) (fun c184 => ?_)
              · have c184 := ci_ne c184
                exfalso
                omega
              have c184 := ci_eq c184
              refine lv_aload_n hx hb dX12_findWorms_208 rfl (lv_at hl 5 rfl) ?_
              refine va_get (D := D) (ci := 12) (v := .ref (r12 12)) (C := RX12) (T := TX12) (N := 63) hx hb hts w1 hown hK.1 hP 0 rfl rfl 12 (by decide) w5 (fun _ h9 => h9) rfl dX12_findWorms_209 ?_
              refine lv_aload_n hx hb dX12_findWorms_212 rfl (lv_at hl 5 rfl) ?_
              refine va_get (D := D) (ci := 12) (v := .int v13) (C := RX12) (T := TX12) (N := 63) hx hb hts w1 hown hK.1 hP 0 rfl rfl 13 (by decide) w2 (fun _ h9 => h9) rfl dX12_findWorms_213 ?_
              refine lv_iconst (v := 0) hx hb dX12_findWorms_216 (by decide) ?_
              refine va_iast hx hb hK.1 hP hD hS 5 1 rfl rfl (i := v13) (ix (by omega) (by omega)) dX12_findWorms_217 (fun H locs hP hD hS => ?_)
              obtain ⟨g185, e186⟩ : ∃ y : Nat → Int32, y = upd g15 v13.toNatClampNeg 0 := ⟨_, rfl⟩
              rw [← e186] at hP hD
              obtain ⟨hP, hD⟩ : PD D A [O12 a12 r12 v12_keptMany v12_done v12_sheets v12_holes v13 v12_laidMany v12_wanted v12_orderMany v12_firstOrder v12_lines v12_marks v12_dots v12_madeIn v12_bound v12_places v12_maps v12_tapeMany v12_stories v12_base v12_at v12_ends v12_fault v12_opened v12_bodies v12_ran v12_ownKind v12_ownNumber, (cI κ (r12 8) 40 f12_sheetOf), (cI κ (r12 9) 40 f12_placeOf), (cI κ (r12 10) 40 g3), (cI κ (r12 11) 40 g14), (cI κ (r12 12) 40 g185)] H := ⟨hP, hD⟩
              refine lv_aload_n hx hb dX12_findWorms_218 rfl (lv_at hl 5 rfl) ?_
              refine lv_dup hx hb dX12_findWorms_219 rfl ?_
              refine va_get (D := D) (ci := 12) (v := .int v13) (C := RX12) (T := TX12) (N := 63) hx hb hts w1 hown hK.1 hP 0 rfl rfl 13 (by decide) w2 (fun _ h9 => h9) rfl dX12_findWorms_220 ?_
              refine lv_iconst (v := 1) hx hb dX12_findWorms_223 (by decide) ?_
              refine lv_iadd hx hb dX12_findWorms_224 ?_
              refine lv_topi (fun x187 e188 => ?_)
              try have h189 : x187.toInt = v13.toInt + (1 : Int32).toInt := ci_add e188 (by omega) (by omega)
              refine va_put (D := D) (ci := 12) (v := .int x187) (ty := .int) (C := RX12) (T := TX12) (N := 63) hx hb hts w1 tyX12 tyX12_ok nmX12 hown hK.1 hP hD hS 0 rfl rfl 13 (by decide) w2 (fun _ h9 => h9) rfl (by decide +kernel) rfl rfl (Nat.le_of_ble_eq_true rfl) dX12_findWorms_225 (fun H locs hP hD hS => ?_)
              obtain ⟨hP, hD⟩ : PD D A [O12 a12 r12 v12_keptMany v12_done v12_sheets v12_holes x187 v12_laidMany v12_wanted v12_orderMany v12_firstOrder v12_lines v12_marks v12_dots v12_madeIn v12_bound v12_places v12_maps v12_tapeMany v12_stories v12_base v12_at v12_ends v12_fault v12_opened v12_bodies v12_ran v12_ownKind v12_ownNumber, (cI κ (r12 8) 40 f12_sheetOf), (cI κ (r12 9) 40 f12_placeOf), (cI κ (r12 10) 40 g3), (cI κ (r12 11) 40 g14), (cI κ (r12 12) 40 g185)] H := ⟨hP, hD⟩
              have h190 : 0 ≤ x187.toInt ∧ x187.toInt ≤ 40 := by omega
              refine lv_aload_n hx hb dX12_findWorms_228 rfl (lv_at hl 5 rfl) ?_
              refine va_get (D := D) (ci := 12) (v := .ref (r12 12)) (C := RX12) (T := TX12) (N := 63) hx hb hts w1 hown hK.1 hP 0 rfl rfl 12 (by decide) w5 (fun _ h9 => h9) rfl dX12_findWorms_229 ?_
              refine lv_aload_n hx hb dX12_findWorms_232 rfl (lv_at hl 5 rfl) ?_
              refine va_get (D := D) (ci := 12) (v := .int x187) (C := RX12) (T := TX12) (N := 63) hx hb hts w1 hown hK.1 hP 0 rfl rfl 13 (by decide) w2 (fun _ h9 => h9) rfl dX12_findWorms_233 ?_
              refine lv_iconst (v := 1) hx hb dX12_findWorms_236 (by decide) ?_
              refine lv_isub hx hb dX12_findWorms_237 ?_
              refine lv_topi (fun x191 e192 => ?_)
              try have h193 : x191.toInt = x187.toInt - (1 : Int32).toInt := ci_sub e192 (by omega) (by omega)
              refine lv_dup2_11 hx hb dX12_findWorms_238 rfl rfl ?_
              refine va_iald hx hb hK.1 hP 5 1 rfl rfl (i := x191) (ix (by omega) (by omega)) dX12_findWorms_239 ?_
              refine lv_topi (fun x194 e195 => ?_)
              refine lv_iload hx hb dX12_findWorms_240 (lv_at hl 1 rfl) ?_
              refine lv_ior hx hb dX12_findWorms_242 ?_
              refine lv_topi (fun x196 e197 => ?_)
              refine va_iast hx hb hK.1 hP hD hS 5 1 rfl rfl (i := x191) (ix (by omega) (by omega)) dX12_findWorms_243 (fun H locs hP hD hS => ?_)
              obtain ⟨g198, e199⟩ : ∃ y : Nat → Int32, y = upd g185 x191.toNatClampNeg x196 := ⟨_, rfl⟩
              rw [← e199] at hP hD
              obtain ⟨hP, hD⟩ : PD D A [O12 a12 r12 v12_keptMany v12_done v12_sheets v12_holes x187 v12_laidMany v12_wanted v12_orderMany v12_firstOrder v12_lines v12_marks v12_dots v12_madeIn v12_bound v12_places v12_maps v12_tapeMany v12_stories v12_base v12_at v12_ends v12_fault v12_opened v12_bodies v12_ran v12_ownKind v12_ownNumber, (cI κ (r12 8) 40 f12_sheetOf), (cI κ (r12 9) 40 f12_placeOf), (cI κ (r12 10) 40 g3), (cI κ (r12 11) 40 g14), (cI κ (r12 12) 40 g198)] H := ⟨hP, hD⟩
              refine lv_aload_n hx hb dX12_findWorms_244 rfl (lv_at hl 5 rfl) ?_
              refine va_get (D := D) (ci := 12) (v := .ref (r12 11)) (C := RX12) (T := TX12) (N := 63) hx hb hts w1 hown hK.1 hP 0 rfl rfl 11 (by decide) w6 (fun _ h9 => h9) rfl dX12_findWorms_245 ?_
              refine lv_iload hx hb dX12_findWorms_248 (lv_at hl 2 rfl) ?_
              refine lv_aload_n hx hb dX12_findWorms_250 rfl (lv_at hl 5 rfl) ?_
              refine va_get (D := D) (ci := 12) (v := .int x187) (C := RX12) (T := TX12) (N := 63) hx hb hts w1 hown hK.1 hP 0 rfl rfl 13 (by decide) w2 (fun _ h9 => h9) rfl dX12_findWorms_251 ?_
              refine lv_iconst (v := 1) hx hb dX12_findWorms_254 (by decide) ?_
              refine lv_isub hx hb dX12_findWorms_255 ?_
              refine lv_topi (fun x200 e201 => ?_)
              try have h202 : x200.toInt = x187.toInt - (1 : Int32).toInt := ci_sub e201 (by omega) (by omega)
              refine va_iast hx hb hK.1 hP hD hS 4 1 rfl rfl (i := x22) (ix (by omega) (by omega)) dX12_findWorms_256 (fun H locs hP hD hS => ?_)
              obtain ⟨g203, e204⟩ : ∃ y : Nat → Int32, y = upd g14 x22.toNatClampNeg x200 := ⟨_, rfl⟩
              rw [← e204] at hP hD
              obtain ⟨hP, hD⟩ : PD D A [O12 a12 r12 v12_keptMany v12_done v12_sheets v12_holes x187 v12_laidMany v12_wanted v12_orderMany v12_firstOrder v12_lines v12_marks v12_dots v12_madeIn v12_bound v12_places v12_maps v12_tapeMany v12_stories v12_base v12_at v12_ends v12_fault v12_opened v12_bodies v12_ran v12_ownKind v12_ownNumber, (cI κ (r12 8) 40 f12_sheetOf), (cI κ (r12 9) 40 f12_placeOf), (cI κ (r12 10) 40 g3), (cI κ (r12 11) 40 g203), (cI κ (r12 12) 40 g198)] H := ⟨hP, hD⟩
              obtain ⟨x205, e206⟩ : ∃ y : Int32, y = k12 + 1 := ⟨_, rfl⟩
              refine lv_iinc (v := x205) (lv' := [(4, .int x205), (7, .int 0), (6, .int x27), (5, .int x22), (3, .int k2), (0, .ref a12), (1, .int p1), (2, .int p2)]) hx hb dX12_findWorms_257 hl (k := 3) rfl (by rw [e206]; rfl) (by decide) rfl (fun ls hl => ?_)
              try have h207 : x205.toInt = k12.toInt + (1 : Int32).toInt := ci_add e206 (by omega) (by omega)
              refine lv_goto (tgt := 113) hx hb dX12_findWorms_260 (by decide) ?_
              exact ih113 x205 x187 g203 g198 h190 (by omega) (by omega) (by omega) (by omega) _ _ hP hD hS _ (lv_sub hl [0, 4, 5, 6, 7] rfl)
            have c183 := ci_eq c183
            refine lv_iconst (v := 1) hx hb dX12_findWorms_196 (by decide) ?_
            refine lv_goto (tgt := 201) hx hb dX12_findWorms_197 (by decide) ?_
            refine lv_istore (lv' := [(7, .int 1), (6, .int x27), (5, .int x22), (4, .int k12), (3, .int k2), (0, .ref a12), (1, .int p1), (2, .int p2)]) hx hb dX12_findWorms_201 hl (by decide) rfl (fun ls hl => ?_)
            refine lv_iload hx hb dX12_findWorms_203 (lv_at hl 0 rfl) ?_
            refine lv_if_ne (tgt := 228) hx hb dX12_findWorms_205 (by decide) (fun c208 => ?_) (fun c208 => ?_)
            · have c208 := ci_ne c208
              refine lv_aload_n hx hb dX12_findWorms_228 rfl (lv_at hl 5 rfl) ?_
              refine va_get (D := D) (ci := 12) (v := .ref (r12 12)) (C := RX12) (T := TX12) (N := 63) hx hb hts w1 hown hK.1 hP 0 rfl rfl 12 (by decide) w5 (fun _ h9 => h9) rfl dX12_findWorms_229 ?_
              refine lv_aload_n hx hb dX12_findWorms_232 rfl (lv_at hl 5 rfl) ?_
              refine va_get (D := D) (ci := 12) (v := .int v13) (C := RX12) (T := TX12) (N := 63) hx hb hts w1 hown hK.1 hP 0 rfl rfl 13 (by decide) w2 (fun _ h9 => h9) rfl dX12_findWorms_233 ?_
              refine lv_iconst (v := 1) hx hb dX12_findWorms_236 (by decide) ?_
              refine lv_isub hx hb dX12_findWorms_237 ?_
              refine lv_topi (fun x209 e210 => ?_)
              try have h211 : x209.toInt = v13.toInt - (1 : Int32).toInt := ci_sub e210 (by omega) (by omega)
              refine lv_dup2_11 hx hb dX12_findWorms_238 rfl rfl ?_
              refine va_iald hx hb hK.1 hP 5 1 rfl rfl (i := x209) (ix (by omega) (by omega)) dX12_findWorms_239 ?_
              refine lv_topi (fun x212 e213 => ?_)
              refine lv_iload hx hb dX12_findWorms_240 (lv_at hl 1 rfl) ?_
              refine lv_ior hx hb dX12_findWorms_242 ?_
              refine lv_topi (fun x214 e215 => ?_)
              refine va_iast hx hb hK.1 hP hD hS 5 1 rfl rfl (i := x209) (ix (by omega) (by omega)) dX12_findWorms_243 (fun H locs hP hD hS => ?_)
              obtain ⟨g216, e217⟩ : ∃ y : Nat → Int32, y = upd g15 x209.toNatClampNeg x214 := ⟨_, rfl⟩
              rw [← e217] at hP hD
              obtain ⟨hP, hD⟩ : PD D A [O12 a12 r12 v12_keptMany v12_done v12_sheets v12_holes v13 v12_laidMany v12_wanted v12_orderMany v12_firstOrder v12_lines v12_marks v12_dots v12_madeIn v12_bound v12_places v12_maps v12_tapeMany v12_stories v12_base v12_at v12_ends v12_fault v12_opened v12_bodies v12_ran v12_ownKind v12_ownNumber, (cI κ (r12 8) 40 f12_sheetOf), (cI κ (r12 9) 40 f12_placeOf), (cI κ (r12 10) 40 g3), (cI κ (r12 11) 40 g14), (cI κ (r12 12) 40 g216)] H := ⟨hP, hD⟩
              refine lv_aload_n hx hb dX12_findWorms_244 rfl (lv_at hl 5 rfl) ?_
              refine va_get (D := D) (ci := 12) (v := .ref (r12 11)) (C := RX12) (T := TX12) (N := 63) hx hb hts w1 hown hK.1 hP 0 rfl rfl 11 (by decide) w6 (fun _ h9 => h9) rfl dX12_findWorms_245 ?_
              refine lv_iload hx hb dX12_findWorms_248 (lv_at hl 2 rfl) ?_
              refine lv_aload_n hx hb dX12_findWorms_250 rfl (lv_at hl 5 rfl) ?_
              refine va_get (D := D) (ci := 12) (v := .int v13) (C := RX12) (T := TX12) (N := 63) hx hb hts w1 hown hK.1 hP 0 rfl rfl 13 (by decide) w2 (fun _ h9 => h9) rfl dX12_findWorms_251 ?_
              refine lv_iconst (v := 1) hx hb dX12_findWorms_254 (by decide) ?_
              refine lv_isub hx hb dX12_findWorms_255 ?_
              refine lv_topi (fun x218 e219 => ?_)
              try have h220 : x218.toInt = v13.toInt - (1 : Int32).toInt := ci_sub e219 (by omega) (by omega)
              refine va_iast hx hb hK.1 hP hD hS 4 1 rfl rfl (i := x22) (ix (by omega) (by omega)) dX12_findWorms_256 (fun H locs hP hD hS => ?_)
              obtain ⟨g221, e222⟩ : ∃ y : Nat → Int32, y = upd g14 x22.toNatClampNeg x218 := ⟨_, rfl⟩
              rw [← e222] at hP hD
              obtain ⟨hP, hD⟩ : PD D A [O12 a12 r12 v12_keptMany v12_done v12_sheets v12_holes v13 v12_laidMany v12_wanted v12_orderMany v12_firstOrder v12_lines v12_marks v12_dots v12_madeIn v12_bound v12_places v12_maps v12_tapeMany v12_stories v12_base v12_at v12_ends v12_fault v12_opened v12_bodies v12_ran v12_ownKind v12_ownNumber, (cI κ (r12 8) 40 f12_sheetOf), (cI κ (r12 9) 40 f12_placeOf), (cI κ (r12 10) 40 g3), (cI κ (r12 11) 40 g221), (cI κ (r12 12) 40 g216)] H := ⟨hP, hD⟩
              obtain ⟨x223, e224⟩ : ∃ y : Int32, y = k12 + 1 := ⟨_, rfl⟩
              refine lv_iinc (v := x223) (lv' := [(4, .int x223), (7, .int 1), (6, .int x27), (5, .int x22), (3, .int k2), (0, .ref a12), (1, .int p1), (2, .int p2)]) hx hb dX12_findWorms_257 hl (k := 3) rfl (by rw [e224]; rfl) (by decide) rfl (fun ls hl => ?_)
              try have h225 : x223.toInt = k12.toInt + (1 : Int32).toInt := ci_add e224 (by omega) (by omega)
              refine lv_goto (tgt := 113) hx hb dX12_findWorms_260 (by decide) ?_
              exact ih113 x223 v13 g221 g216 h16 (by omega) (by omega) (by omega) (by omega) _ _ hP hD hS _ (lv_sub hl [0, 4, 5, 6, 7] rfl)
            have c208 := ci_eq c208
            exfalso
            omega
        exact lp113 ((k2.toInt - (0 : Int32).toInt).toNat + 1) 0 0 g5 f12_wormSheets h11 (by omega) (by omega) (by omega) (by omega) _ _ hP hD hS _ hl
      have c10 := ci_nle c10
      refine lv_aload_n hx hb dX12_findWorms_14 rfl (lv_at hl 2 rfl) ?_
      refine va_get (D := D) (ci := 12) (v := .ref (r12 11)) (C := RX12) (T := TX12) (N := 63) hx hb hts w1 hown hK.1 hP 0 rfl rfl 11 (by decide) w6 (fun _ h9 => h9) rfl dX12_findWorms_15 ?_
      refine lv_iload hx hb dX12_findWorms_18 (lv_at hl 0 rfl) ?_
      refine lv_iconst (v := (-1)) hx hb dX12_findWorms_20 (by decide) ?_
      refine va_iast hx hb hK.1 hP hD hS 4 1 rfl rfl (i := k1) (ix (by omega) (by omega)) dX12_findWorms_21 (fun H locs hP hD hS => ?_)
      obtain ⟨g226, e227⟩ : ∃ y : Nat → Int32, y = upd g5 k1.toNatClampNeg (-1) := ⟨_, rfl⟩
      rw [← e227] at hP hD
      obtain ⟨hP, hD⟩ : PD D A [O12 a12 r12 v12_keptMany v12_done v12_sheets v12_holes v12_worms v12_laidMany v12_wanted v12_orderMany v12_firstOrder v12_lines v12_marks v12_dots v12_madeIn v12_bound v12_places v12_maps v12_tapeMany v12_stories v12_base v12_at v12_ends v12_fault v12_opened v12_bodies v12_ran v12_ownKind v12_ownNumber, (cI κ (r12 8) 40 f12_sheetOf), (cI κ (r12 9) 40 f12_placeOf), (cI κ (r12 10) 40 g3), (cI κ (r12 11) 40 g226), (cI κ (r12 12) 40 f12_wormSheets)] H := ⟨hP, hD⟩
      refine lv_aload_n hx hb dX12_findWorms_22 rfl (lv_at hl 2 rfl) ?_
      refine va_get (D := D) (ci := 12) (v := .ref (r12 8)) (C := RX12) (T := TX12) (N := 63) hx hb hts w1 hown hK.1 hP 0 rfl rfl 8 (by decide) w4 (fun _ h9 => h9) rfl dX12_findWorms_23 ?_
      refine lv_iload hx hb dX12_findWorms_26 (lv_at hl 0 rfl) ?_
      refine va_iald hx hb hK.1 hP 1 1 rfl rfl (i := k1) (ix (by omega) (by omega)) dX12_findWorms_28 ?_
      refine lv_topi (fun x228 e229 => ?_)
      refine lv_iload_n hx hb dX12_findWorms_29 rfl (lv_at hl 4 rfl) ?_
      refine lv_icmp_eq (tgt := 99) hx hb dX12_findWorms_30 (by decide) (fun c230 => ?_) (fun c230 => ?_)
      · have c230 := ci_eq c230
        obtain ⟨x231, e232⟩ : ∃ y : Int32, y = k1 + 1 := ⟨_, rfl⟩
        refine lv_iinc (v := x231) (lv' := [(4, .int x231), (3, .int k2), (0, .ref a12), (1, .int p1), (2, .int p2)]) hx hb dX12_findWorms_99 hl (k := 0) rfl (by rw [e232]; rfl) (by decide) rfl (fun ls hl => ?_)
        try have h233 : x231.toInt = k1.toInt + (1 : Int32).toInt := ci_add e232 (by omega) (by omega)
        refine lv_goto (tgt := 5) hx hb dX12_findWorms_102 (by decide) ?_
        exact ih5 x231 k2 g3 g226 h4 (by omega) (by omega) (by omega) (by omega) _ _ hP hD hS _ hl
      have c230 := ci_ne c230
      refine lv_iload_n hx hb dX12_findWorms_33 rfl (lv_at hl 1 rfl) ?_
      refine lv_istore (lv' := [(5, .int k2), (4, .int k1), (3, .int k2), (0, .ref a12), (1, .int p1), (2, .int p2)]) hx hb dX12_findWorms_34 hl (by decide) rfl (fun ls hl => ?_)
      have lp36 : ∀ (n36 : Nat) (k234 : Int32) (g235 : Nat → Int32), (∀ j : Nat, 0 ≤ (g235 j).toInt ∧ (g235 j).toInt ≤ 39) → (0 ≤ k234.toInt ∧ k234.toInt ≤ k2.toInt) → (k234.toInt).toNat < n36 → ∀ (H : Heap) (locs : List Loc), va_P D vwCl [O12 a12 r12 v12_keptMany v12_done v12_sheets v12_holes v12_worms v12_laidMany v12_wanted v12_orderMany v12_firstOrder v12_lines v12_marks v12_dots v12_madeIn v12_bound v12_places v12_maps v12_tapeMany v12_stories v12_base v12_at v12_ends v12_fault v12_opened v12_bodies v12_ran v12_ownKind v12_ownNumber, (cI κ (r12 8) 40 f12_sheetOf), (cI κ (r12 9) 40 f12_placeOf), (cI κ (r12 10) 40 g235), (cI κ (r12 11) 40 g226), (cI κ (r12 12) 40 f12_wormSheets)] H → va_D A [O12 a12 r12 v12_keptMany v12_done v12_sheets v12_holes v12_worms v12_laidMany v12_wanted v12_orderMany v12_firstOrder v12_lines v12_marks v12_dots v12_madeIn v12_bound v12_places v12_maps v12_tapeMany v12_stories v12_base v12_at v12_ends v12_fault v12_opened v12_bodies v12_ran v12_ownKind v12_ownNumber, (cI κ (r12 8) 40 f12_sheetOf), (cI κ (r12 9) 40 f12_placeOf), (cI κ (r12 10) 40 g235), (cI κ (r12 11) 40 g226), (cI κ (r12 12) 40 f12_wormSheets)] → va_S A s.heap H locs → ∀ ls : Array Slot, lv_has ls 8 [(5, .int k234), (4, .int k1), (3, .int k2), (0, .ref a12), (1, .int p1), (2, .int p2)] → W p l e ({ frames := 0, cells := 0, slots := 0, locals := 0 } : Room) s m args below meth c H locs 0 0 Q (F0 m 36 ls []) := by
        intro n36
        induction n36 with
        | zero =>
          intro k234 g235 h236 h237 m238
          exact absurd m238 (Nat.not_lt_zero _)
        | succ n36 ih36 =>
          intro k234 g235 h236 h237 m238 H locs hP hD hS ls hl
          refine lv_iload hx hb dX12_findWorms_36 (lv_at hl 0 rfl) ?_
          refine lv_if_le (tgt := 87) hx hb dX12_findWorms_38 (by decide) (fun c239 => ?_) (fun c239 => ?_)
          · have c239 := ci_le c239
            refine lv_aload_n hx hb dX12_findWorms_87 rfl (lv_at hl 3 rfl) ?_
            refine va_get (D := D) (ci := 12) (v := .ref (r12 10)) (C := RX12) (T := TX12) (N := 63) hx hb hts w1 hown hK.1 hP 0 rfl rfl 10 (by decide) w3 (fun _ h9 => h9) rfl dX12_findWorms_88 ?_
            refine lv_iload hx hb dX12_findWorms_91 (lv_at hl 0 rfl) ?_
            refine lv_iload hx hb dX12_findWorms_93 (lv_at hl 1 rfl) ?_
            refine va_iast hx hb hK.1 hP hD hS 3 1 rfl rfl (i := k234) (ix (by omega) (by omega)) dX12_findWorms_95 (fun H locs hP hD hS => ?_)
            obtain ⟨g240, e241⟩ : ∃ y : Nat → Int32, y = upd g235 k234.toNatClampNeg k1 := ⟨_, rfl⟩
            rw [← e241] at hP hD
            obtain ⟨hP, hD⟩ : PD D A [O12 a12 r12 v12_keptMany v12_done v12_sheets v12_holes v12_worms v12_laidMany v12_wanted v12_orderMany v12_firstOrder v12_lines v12_marks v12_dots v12_madeIn v12_bound v12_places v12_maps v12_tapeMany v12_stories v12_base v12_at v12_ends v12_fault v12_opened v12_bodies v12_ran v12_ownKind v12_ownNumber, (cI κ (r12 8) 40 f12_sheetOf), (cI κ (r12 9) 40 f12_placeOf), (cI κ (r12 10) 40 g240), (cI κ (r12 11) 40 g226), (cI κ (r12 12) 40 f12_wormSheets)] H := ⟨hP, hD⟩
            have h242 : ∀ j : Nat, 0 ≤ (g240 j).toInt ∧ (g240 j).toInt ≤ 39 := by rw [e241]; exact all_upd (P := fun z => 0 ≤ z.toInt ∧ z.toInt ≤ 39) h236 (by omega)
            obtain ⟨x243, e244⟩ : ∃ y : Int32, y = k2 + 1 := ⟨_, rfl⟩
            refine lv_iinc (v := x243) (lv' := [(3, .int x243), (5, .int k234), (4, .int k1), (0, .ref a12), (1, .int p1), (2, .int p2)]) hx hb dX12_findWorms_96 hl (k := 2) rfl (by rw [e244]; rfl) (by decide) rfl (fun ls hl => ?_)
            try have h245 : x243.toInt = k2.toInt + (1 : Int32).toInt := ci_add e244 (by omega) (by omega)
            obtain ⟨x246, e247⟩ : ∃ y : Int32, y = k1 + 1 := ⟨_, rfl⟩
            refine lv_iinc (v := x246) (lv' := [(4, .int x246), (3, .int x243), (5, .int k234), (0, .ref a12), (1, .int p1), (2, .int p2)]) hx hb dX12_findWorms_99 hl (k := 2) rfl (by rw [e247]; rfl) (by decide) rfl (fun ls hl => ?_)
            try have h248 : x246.toInt = k1.toInt + (1 : Int32).toInt := ci_add e247 (by omega) (by omega)
            refine lv_goto (tgt := 5) hx hb dX12_findWorms_102 (by decide) ?_
            exact ih5 x246 x243 g240 g226 h242 (by omega) (by omega) (by omega) (by omega) _ _ hP hD hS _ (lv_sub hl [0, 1, 3, 4, 5] rfl)
          have c239 := ci_nle c239
          refine lv_aload_n hx hb dX12_findWorms_41 rfl (lv_at hl 3 rfl) ?_
          refine va_get (D := D) (ci := 12) (v := .ref (r12 9)) (C := RX12) (T := TX12) (N := 63) hx hb hts w1 hown hK.1 hP 0 rfl rfl 9 (by decide) w7 (fun _ h9 => h9) rfl dX12_findWorms_42 ?_
          refine lv_aload_n hx hb dX12_findWorms_45 rfl (lv_at hl 3 rfl) ?_
          refine va_get (D := D) (ci := 12) (v := .ref (r12 10)) (C := RX12) (T := TX12) (N := 63) hx hb hts w1 hown hK.1 hP 0 rfl rfl 10 (by decide) w3 (fun _ h9 => h9) rfl dX12_findWorms_46 ?_
          refine lv_iload hx hb dX12_findWorms_49 (lv_at hl 0 rfl) ?_
          refine lv_iconst (v := 1) hx hb dX12_findWorms_51 (by decide) ?_
          refine lv_isub hx hb dX12_findWorms_52 ?_
          refine lv_topi (fun x249 e250 => ?_)
          try have h251 : x249.toInt = k234.toInt - (1 : Int32).toInt := ci_sub e250 (by omega) (by omega)
          refine va_iald hx hb hK.1 hP 3 1 rfl rfl (i := x249) (ix (by omega) (by omega)) dX12_findWorms_53 ?_
          refine lv_topi (fun x252 e253 => ?_)
          have h254 : 0 ≤ x252.toInt ∧ x252.toInt ≤ 39 := by rw [e253]; exact h236 _
          refine va_iald hx hb hK.1 hP 2 1 rfl rfl (i := x252) (ix (by omega) (by omega)) dX12_findWorms_54 ?_
          refine lv_topi (fun x255 e256 => ?_)
          refine lv_aload_n hx hb dX12_findWorms_55 rfl (lv_at hl 3 rfl) ?_
          refine va_get (D := D) (ci := 12) (v := .ref (r12 9)) (C := RX12) (T := TX12) (N := 63) hx hb hts w1 hown hK.1 hP 0 rfl rfl 9 (by decide) w7 (fun _ h9 => h9) rfl dX12_findWorms_56 ?_
          refine lv_iload hx hb dX12_findWorms_59 (lv_at hl 1 rfl) ?_
          refine va_iald hx hb hK.1 hP 2 1 rfl rfl (i := k1) (ix (by omega) (by omega)) dX12_findWorms_61 ?_
          refine lv_topi (fun x257 e258 => ?_)
          refine lv_icmp_le (tgt := 87) hx hb dX12_findWorms_62 (by decide) (fun c259 => ?_) (fun c259 => ?_)
          · have c259 := ci_le c259
            refine lv_aload_n hx hb dX12_findWorms_87 rfl (lv_at hl 3 rfl) ?_
            refine va_get (D := D) (ci := 12) (v := .ref (r12 10)) (C := RX12) (T := TX12) (N := 63) hx hb hts w1 hown hK.1 hP 0 rfl rfl 10 (by decide) w3 (fun _ h9 => h9) rfl dX12_findWorms_88 ?_
            refine lv_iload hx hb dX12_findWorms_91 (lv_at hl 0 rfl) ?_
            refine lv_iload hx hb dX12_findWorms_93 (lv_at hl 1 rfl) ?_
            refine va_iast hx hb hK.1 hP hD hS 3 1 rfl rfl (i := k234) (ix (by omega) (by omega)) dX12_findWorms_95 (fun H locs hP hD hS => ?_)
            obtain ⟨g260, e261⟩ : ∃ y : Nat → Int32, y = upd g235 k234.toNatClampNeg k1 := ⟨_, rfl⟩
            rw [← e261] at hP hD
            obtain ⟨hP, hD⟩ : PD D A [O12 a12 r12 v12_keptMany v12_done v12_sheets v12_holes v12_worms v12_laidMany v12_wanted v12_orderMany v12_firstOrder v12_lines v12_marks v12_dots v12_madeIn v12_bound v12_places v12_maps v12_tapeMany v12_stories v12_base v12_at v12_ends v12_fault v12_opened v12_bodies v12_ran v12_ownKind v12_ownNumber, (cI κ (r12 8) 40 f12_sheetOf), (cI κ (r12 9) 40 f12_placeOf), (cI κ (r12 10) 40 g260), (cI κ (r12 11) 40 g226), (cI κ (r12 12) 40 f12_wormSheets)] H := ⟨hP, hD⟩
            have h262 : ∀ j : Nat, 0 ≤ (g260 j).toInt ∧ (g260 j).toInt ≤ 39 := by rw [e261]; exact all_upd (P := fun z => 0 ≤ z.toInt ∧ z.toInt ≤ 39) h236 (by omega)
            obtain ⟨x263, e264⟩ : ∃ y : Int32, y = k2 + 1 := ⟨_, rfl⟩
            refine lv_iinc (v := x263) (lv' := [(3, .int x263), (5, .int k234), (4, .int k1), (0, .ref a12), (1, .int p1), (2, .int p2)]) hx hb dX12_findWorms_96 hl (k := 2) rfl (by rw [e264]; rfl) (by decide) rfl (fun ls hl => ?_)
            try have h265 : x263.toInt = k2.toInt + (1 : Int32).toInt := ci_add e264 (by omega) (by omega)
            obtain ⟨x266, e267⟩ : ∃ y : Int32, y = k1 + 1 := ⟨_, rfl⟩
            refine lv_iinc (v := x266) (lv' := [(4, .int x266), (3, .int x263), (5, .int k234), (0, .ref a12), (1, .int p1), (2, .int p2)]) hx hb dX12_findWorms_99 hl (k := 2) rfl (by rw [e267]; rfl) (by decide) rfl (fun ls hl => ?_)
            try have h268 : x266.toInt = k1.toInt + (1 : Int32).toInt := ci_add e267 (by omega) (by omega)
            refine lv_goto (tgt := 5) hx hb dX12_findWorms_102 (by decide) ?_
            exact ih5 x266 x263 g260 g226 h262 (by omega) (by omega) (by omega) (by omega) _ _ hP hD hS _ (lv_sub hl [0, 1, 3, 4, 5] rfl)
          have c259 := ci_nle c259
          refine lv_aload_n hx hb dX12_findWorms_65 rfl (lv_at hl 3 rfl) ?_
          refine va_get (D := D) (ci := 12) (v := .ref (r12 10)) (C := RX12) (T := TX12) (N := 63) hx hb hts w1 hown hK.1 hP 0 rfl rfl 10 (by decide) w3 (fun _ h9 => h9) rfl dX12_findWorms_66 ?_
          refine lv_iload hx hb dX12_findWorms_69 (lv_at hl 0 rfl) ?_
          refine lv_aload_n hx hb dX12_findWorms_71 rfl (lv_at hl 3 rfl) ?_
          refine va_get (D := D) (ci := 12) (v := .ref (r12 10)) (C := RX12) (T := TX12) (N := 63) hx hb hts w1 hown hK.1 hP 0 rfl rfl 10 (by decide) w3 (fun _ h9 => h9) rfl dX12_findWorms_72 ?_
          refine lv_iload hx hb dX12_findWorms_75 (lv_at hl 0 rfl) ?_
          refine lv_iconst (v := 1) hx hb dX12_findWorms_77 (by decide) ?_
          refine lv_isub hx hb dX12_findWorms_78 ?_
          refine lv_topi (fun x269 e270 => ?_)
          try have h271 : x269.toInt = k234.toInt - (1 : Int32).toInt := ci_sub e270 (by omega) (by omega)
          refine va_iald hx hb hK.1 hP 3 1 rfl rfl (i := x269) (ix (by omega) (by omega)) dX12_findWorms_79 ?_
          refine lv_topi (fun x272 e273 => ?_)
          have h274 : 0 ≤ x272.toInt ∧ x272.toInt ≤ 39 := by rw [e273]; exact h236 _
          refine va_iast hx hb hK.1 hP hD hS 3 1 rfl rfl (i := k234) (ix (by omega) (by omega)) dX12_findWorms_80 (fun H locs hP hD hS => ?_)
          obtain ⟨g275, e276⟩ : ∃ y : Nat → Int32, y = upd g235 k234.toNatClampNeg x272 := ⟨_, rfl⟩
          rw [← e276] at hP hD
          obtain ⟨hP, hD⟩ : PD D A [O12 a12 r12 v12_keptMany v12_done v12_sheets v12_holes v12_worms v12_laidMany v12_wanted v12_orderMany v12_firstOrder v12_lines v12_marks v12_dots v12_madeIn v12_bound v12_places v12_maps v12_tapeMany v12_stories v12_base v12_at v12_ends v12_fault v12_opened v12_bodies v12_ran v12_ownKind v12_ownNumber, (cI κ (r12 8) 40 f12_sheetOf), (cI κ (r12 9) 40 f12_placeOf), (cI κ (r12 10) 40 g275), (cI κ (r12 11) 40 g226), (cI κ (r12 12) 40 f12_wormSheets)] H := ⟨hP, hD⟩
          have h277 : ∀ j : Nat, 0 ≤ (g275 j).toInt ∧ (g275 j).toInt ≤ 39 := by rw [e276]; exact all_upd (P := fun z => 0 ≤ z.toInt ∧ z.toInt ≤ 39) h236 (by omega)
          obtain ⟨x278, e279⟩ : ∃ y : Int32, y = k234 + (-1) := ⟨_, rfl⟩
          refine lv_iinc (v := x278) (lv' := [(5, .int x278), (4, .int k1), (3, .int k2), (0, .ref a12), (1, .int p1), (2, .int p2)]) hx hb dX12_findWorms_81 hl (k := 0) rfl (by rw [e279]; rfl) (by decide) rfl (fun ls hl => ?_)
          try have h280 : x278.toInt = k234.toInt + ((-1) : Int32).toInt := ci_add e279 (by omega) (by omega)
          refine lv_goto (tgt := 36) hx hb dX12_findWorms_84 (by decide) ?_
          exact ih36 x278 g275 h277 (by omega) (by omega) _ _ hP hD hS _ hl
      exact lp36 ((k2.toInt).toNat + 1) k2 g3 h4 (by omega) (by omega) _ _ hP hD hS _ hl
  exact lp5 ((v12_holes.toInt - (0 : Int32).toInt).toNat + 1) 0 0 f12_sorted f12_wormOf hf12_sorted (by omega) (by omega) (by omega) (by omega) _ _ hP hD hS _ hl
set_option maxHeartbeats 4000000 in
set_option maxRecDepth 100000 in
theorem k_X12_worms (l : Launch) (D : va_G) (κ : Nat → ClassId) (β : Nat) (a12 : Nat) (r12 : Nat → Nat) (v12_keptMany : Int32) (v12_done : Int32) (v12_sheets : Int32) (v12_holes : Int32) (v12_worms : Int32) (v12_laidMany : Int32) (v12_wanted : Int32) (v12_orderMany : Int32) (v12_firstOrder : Int32) (v12_lines : Int32) (v12_marks : Int32) (v12_dots : Int32) (v12_madeIn : Int32) (v12_bound : Int32) (v12_places : Int32) (v12_maps : Int32) (v12_tapeMany : Int32) (v12_stories : Int32) (v12_base : Int32) (v12_at : Int32) (v12_ends : Int32) (v12_fault : Int32) (v12_opened : Int32) (v12_bodies : Int32) (v12_ran : Int32) (v12_ownKind : Int32) (v12_ownNumber : Int32) (f12_sheetOf : Nat → Int32) (f12_placeOf : Nat → Int32) (f12_sorted : Nat → Int32) (f12_wormOf : Nat → Int32) (f12_wormSheets : Nat → Int32) (sz : Nat) (p1 : Int32) (p2 : Int32) (i1 : Rg 0 40 v12_keptMany) (i2 : Rg 0 40 v12_done) (i3 : Rg 0 8 v12_sheets) (i4 : Rg 0 40 v12_holes) (i5 : Rg 0 40 v12_worms) (i6 : Rg 0 8 v12_laidMany) (i7 : Rg 0 8 v12_wanted) (i8 : Rg 0 20 v12_lines) (i9 : Rg 0 60 v12_marks) (i10 : Rg 0 40 v12_dots) (i11 : Rg 0 20 v12_places) (i12 : Rg 0 8 v12_maps) (i13 : Rg 0 120 v12_tapeMany) (i14 : Rg 0 6 v12_stories) (i15 : Rg 0 50 v12_bodies) (i16 : Rg 0 1000 v12_ran) (hf12_sorted : ∀ j : Nat, 0 ≤ (f12_sorted j).toInt ∧ (f12_sorted j).toInt ≤ 39) (i17 : v12_done.toInt ≤ v12_keptMany.toInt) : Met l yX12_worms wsX12_worms ({ frames := 2, cells := 0, slots := 0, locals := 45 } : Room) (PcK D κ β [O12 a12 r12 v12_keptMany v12_done v12_sheets v12_holes v12_worms v12_laidMany v12_wanted v12_orderMany v12_firstOrder v12_lines v12_marks v12_dots v12_madeIn v12_bound v12_places v12_maps v12_tapeMany v12_stories v12_base v12_at v12_ends v12_fault v12_opened v12_bodies v12_ran v12_ownKind v12_ownNumber, (cI κ (r12 8) 40 f12_sheetOf), (cI κ (r12 9) 40 f12_placeOf), (cI κ (r12 10) 40 f12_sorted), (cI κ (r12 11) 40 f12_wormOf), (cI κ (r12 12) 40 f12_wormSheets)] sz [.ref a12, .int p1, .int p2]) (QiK D (fun (r : Int32) (u : Int32 × (Nat → Int32) × (Nat → Int32) × (Nat → Int32)) => (0 ≤ u.1.toInt ∧ u.1.toInt ≤ 40) ∧ (∀ j : Nat, 0 ≤ (u.2.1 j).toInt ∧ (u.2.1 j).toInt ≤ 39)) (fun (u : Int32 × (Nat → Int32) × (Nat → Int32) × (Nat → Int32)) => [O12 a12 r12 v12_keptMany v12_done v12_sheets v12_holes u.1 v12_laidMany v12_wanted v12_orderMany v12_firstOrder v12_lines v12_marks v12_dots v12_madeIn v12_bound v12_places v12_maps v12_tapeMany v12_stories v12_base v12_at v12_ends v12_fault v12_opened v12_bodies v12_ran v12_ownKind v12_ownNumber, (cI κ (r12 8) 40 f12_sheetOf), (cI κ (r12 9) 40 f12_placeOf), (cI κ (r12 10) 40 u.2.1), (cI κ (r12 11) 40 u.2.2.1), (cI κ (r12 12) 40 u.2.2.2)]) [O12 a12 r12 v12_keptMany v12_done v12_sheets v12_holes v12_worms v12_laidMany v12_wanted v12_orderMany v12_firstOrder v12_lines v12_marks v12_dots v12_madeIn v12_bound v12_places v12_maps v12_tapeMany v12_stories v12_base v12_at v12_ends v12_fault v12_opened v12_bodies v12_ran v12_ownKind v12_ownNumber, (cI κ (r12 8) 40 f12_sheetOf), (cI κ (r12 9) 40 f12_placeOf), (cI κ (r12 10) 40 f12_sorted), (cI κ (r12 11) 40 f12_wormOf), (cI κ (r12 12) 40 f12_wormSheets)] sz) 0 0 (va_A [O12 a12 r12 v12_keptMany v12_done v12_sheets v12_holes v12_worms v12_laidMany v12_wanted v12_orderMany v12_firstOrder v12_lines v12_marks v12_dots v12_madeIn v12_bound v12_places v12_maps v12_tapeMany v12_stories v12_base v12_at v12_ends v12_fault v12_opened v12_bodies v12_ran v12_ownKind v12_ownNumber, (cI κ (r12 8) 40 f12_sheetOf), (cI κ (r12 9) 40 f12_placeOf), (cI κ (r12 10) 40 f12_sorted), (cI κ (r12 11) 40 f12_wormOf), (cI κ (r12 12) 40 f12_wormSheets)] sz) := by
  refine ofK_i (cc := cX12_worms) (maxL := 3) (own := RX12) (by decide) rfl rfl (Nat.le_of_ble_eq_true rfl) ?_
  intro p e s m args below meth c Q A ls hsz hx hb hml hts hown hK hA hAB hP hD hl ret
  have hS : va_S A s.heap s.heap [] := va_S.rf
  have hl : lv_has ls 3 [(0, .ref a12), (1, .int p1), (2, .int p2)] := hl
  have w0 := hts (.fieldLink RX12 160 "OlderSkinModel" "worms" "I") (List.mem_of_getElem? (i := 1) rfl)
  have w1 := (fun w h => List.mem_cons_of_mem _ (List.mem_append_right _ h) : ∀ w ∈ u_ws RX12 TX12 63, w ∈ wsX12_worms)
  have w2 := hts (.fieldLink RX12 34 "OlderSkinModel" "wormSheets" "[I") (List.mem_of_getElem? (i := 2) rfl)
  have l0 : (0 : Int32).toInt = 0 := by decide
  have l1 : ((-1) : Int32).toInt = -1 := by decide
  have i5 : 0 ≤ v12_worms.toInt ∧ v12_worms.toInt ≤ 40 := i5
  refine lv_iload_n hx hb dX12_worms_0 rfl (lv_at hl 1 rfl) ?_
  refine kcm_i hA hAB hP hD hS [false, false, false, false, false, false] rfl (fun _ => rfl) (fun hPc hDc => va_runS (As := [.int p1]) (rest := []) ⟨hx, hb, hml, hown, hts⟩ (k_X12_isSlack l D κ β s.heap.size p1) (va_cwS 1 hts gX12_worms_X12_isSlack rfl rfl rfl (by decide +kernel) ⟨Nat.le_of_ble_eq_true rfl, Nat.le_of_ble_eq_true rfl⟩) (pk_S hK hS hAB hPc hDc) rfl rfl hl.1 rfl (lv_room (Nat.le_of_ble_eq_true rfl)) dX12_worms_1 ⟨Nat.le_of_ble_eq_true rfl, Nat.le_of_ble_eq_true rfl⟩) (fun x1 u2 H locs hw hPD hS => ?_)
  have h3 : (x1.toInt = 1 ∧ 0 ≤ p1.toInt ∧ p1.toInt ≤ 99) ∨ (x1.toInt = 0 ∧ (p1.toInt < 0 ∨ 99 < p1.toInt)) := hw
  obtain ⟨hP, hD⟩ : PD D A [O12 a12 r12 v12_keptMany v12_done v12_sheets v12_holes v12_worms v12_laidMany v12_wanted v12_orderMany v12_firstOrder v12_lines v12_marks v12_dots v12_madeIn v12_bound v12_places v12_maps v12_tapeMany v12_stories v12_base v12_at v12_ends v12_fault v12_opened v12_bodies v12_ran v12_ownKind v12_ownNumber, (cI κ (r12 8) 40 f12_sheetOf), (cI κ (r12 9) 40 f12_placeOf), (cI κ (r12 10) 40 f12_sorted), (cI κ (r12 11) 40 f12_wormOf), (cI κ (r12 12) 40 f12_wormSheets)] H := hPD
  refine lv_if_eq (tgt := 12) hx hb dX12_worms_4 (by decide) (fun c4 => ?_) (fun c4 => ?_)
  · have c4 := ci_eq c4
    refine lv_iconst (v := (-1)) hx hb dX12_worms_12 (by decide) ?_
    have hpo : (0 ≤ v12_worms.toInt ∧ v12_worms.toInt ≤ 40) ∧ (∀ j : Nat, 0 ≤ (f12_sorted j).toInt ∧ (f12_sorted j).toInt ≤ 39) := ⟨i5, hf12_sorted⟩
    exact ret _ _ _ _ (-1) (v12_worms, f12_sorted, f12_wormOf, f12_wormSheets) dX12_worms_13 hpo hP hD hS
  have c4 := ci_ne c4
  refine lv_iload_n hx hb dX12_worms_7 rfl (lv_at hl 2 rfl) ?_
  refine lv_iconst (v := (-1)) hx hb dX12_worms_8 (by decide) ?_
  refine lv_icmp_ge (tgt := 14) hx hb dX12_worms_9 (by decide) (fun c5 => ?_) (fun c5 => ?_)
  · have c5 := ci_le c5
    refine lv_aload_n hx hb dX12_worms_14 rfl (lv_at hl 0 rfl) ?_
    refine lv_iload_n hx hb dX12_worms_15 rfl (lv_at hl 1 rfl) ?_
    refine lv_iconst (v := (-1)) hx hb dX12_worms_16 (by decide) ?_
    refine kcm_v hA hAB hP hD hS [true, true, true, true, true, true] rfl (fun _ => rfl) (fun hPc hDc => va_runV (As := [.int p1, .int (-1)]) (rest := []) ⟨hx, hb, hml, hown, hts⟩ (k_X12_findWorms l D κ β a12 r12 v12_keptMany v12_done v12_sheets v12_holes v12_worms v12_laidMany v12_wanted v12_orderMany v12_firstOrder v12_lines v12_marks v12_dots v12_madeIn v12_bound v12_places v12_maps v12_tapeMany v12_stories v12_base v12_at v12_ends v12_fault v12_opened v12_bodies v12_ran v12_ownKind v12_ownNumber f12_sheetOf f12_placeOf f12_sorted f12_wormOf f12_wormSheets H.size p1 (-1) i1 i2 i3 i4 i5 i6 i7 i8 i9 i10 i11 i12 i13 i14 i15 i16 hf12_sorted i17) (cwV 2 hts gX12_worms_X12_findWorms rfl rfl rfl (by decide +kernel) ⟨Nat.le_of_ble_eq_true rfl, Nat.le_of_ble_eq_true rfl⟩) (pk_V hK hS hAB hPc hDc 0 (ci := 12) rfl rfl rfl) rfl rfl hl.1 rfl (lv_room (Nat.le_of_ble_eq_true rfl)) dX12_worms_17 ⟨Nat.le_of_ble_eq_true rfl, Nat.le_of_ble_eq_true rfl⟩) (fun u10 H locs hw hPD hS => ?_)
    obtain ⟨x6, g7, g8, g9⟩ := u10
    obtain ⟨h11, h12⟩ : (0 ≤ x6.toInt ∧ x6.toInt ≤ 40) ∧ (∀ j : Nat, 0 ≤ (g7 j).toInt ∧ (g7 j).toInt ≤ 39) := hw
    obtain ⟨hP, hD⟩ : PD D A [O12 a12 r12 v12_keptMany v12_done v12_sheets v12_holes x6 v12_laidMany v12_wanted v12_orderMany v12_firstOrder v12_lines v12_marks v12_dots v12_madeIn v12_bound v12_places v12_maps v12_tapeMany v12_stories v12_base v12_at v12_ends v12_fault v12_opened v12_bodies v12_ran v12_ownKind v12_ownNumber, (cI κ (r12 8) 40 f12_sheetOf), (cI κ (r12 9) 40 f12_placeOf), (cI κ (r12 10) 40 g7), (cI κ (r12 11) 40 g8), (cI κ (r12 12) 40 g9)] H := hPD
    refine lv_iload_n hx hb dX12_worms_20 rfl (lv_at hl 2 rfl) ?_
    refine lv_iconst (v := (-1)) hx hb dX12_worms_21 (by decide) ?_
    refine lv_icmp_ne (tgt := 32) hx hb dX12_worms_22 (by decide) (fun c13 => ?_) (fun c13 => ?_)
    · have c13 := ci_ne c13
      refine lv_iload_n hx hb dX12_worms_32 rfl (lv_at hl 2 rfl) ?_
      refine lv_aload_n hx hb dX12_worms_33 rfl (lv_at hl 0 rfl) ?_
      refine va_get (D := D) (ci := 12) (v := .int x6) (C := RX12) (T := TX12) (N := 63) hx hb hts w1 hown hK.1 hP 0 rfl rfl 13 (by decide) w0 (fun _ h9 => h9) rfl dX12_worms_34 ?_
      refine lv_icmp_ge (tgt := 49) hx hb dX12_worms_37 (by decide) (fun c14 => ?_) (fun c14 => ?_)
      · have c14 := ci_le c14
        refine lv_iconst (v := (-1)) hx hb dX12_worms_49 (by decide) ?_
        have hpo : (0 ≤ x6.toInt ∧ x6.toInt ≤ 40) ∧ (∀ j : Nat, 0 ≤ (g7 j).toInt ∧ (g7 j).toInt ≤ 39) := ⟨h11, h12⟩
        exact ret _ _ _ _ (-1) (x6, g7, g8, g9) dX12_worms_50 hpo hP hD hS
      have c14 := ci_nle c14
      refine lv_aload_n hx hb dX12_worms_40 rfl (lv_at hl 0 rfl) ?_
      refine va_get (D := D) (ci := 12) (v := .ref (r12 12)) (C := RX12) (T := TX12) (N := 63) hx hb hts w1 hown hK.1 hP 0 rfl rfl 12 (by decide) w2 (fun _ h9 => h9) rfl dX12_worms_41 ?_
      refine lv_iload_n hx hb dX12_worms_44 rfl (lv_at hl 2 rfl) ?_
      refine va_iald hx hb hK.1 hP 5 1 rfl rfl (i := p2) (ix (by omega) (by omega)) dX12_worms_45 ?_
      refine lv_topi (fun x15 e16 => ?_)
      refine lv_goto (tgt := 50) hx hb dX12_worms_46 (by decide) ?_
      have hpo : (0 ≤ x6.toInt ∧ x6.toInt ≤ 40) ∧ (∀ j : Nat, 0 ≤ (g7 j).toInt ∧ (g7 j).toInt ≤ 39) := ⟨h11, h12⟩
      exact ret _ _ _ _ x15 (x6, g7, g8, g9) dX12_worms_50 hpo hP hD hS
    have c13 := ci_eq c13
    refine lv_aload_n hx hb dX12_worms_25 rfl (lv_at hl 0 rfl) ?_
    refine va_get (D := D) (ci := 12) (v := .int x6) (C := RX12) (T := TX12) (N := 63) hx hb hts w1 hown hK.1 hP 0 rfl rfl 13 (by decide) w0 (fun _ h9 => h9) rfl dX12_worms_26 ?_
    refine lv_goto (tgt := 50) hx hb dX12_worms_29 (by decide) ?_
    have hpo : (0 ≤ x6.toInt ∧ x6.toInt ≤ 40) ∧ (∀ j : Nat, 0 ≤ (g7 j).toInt ∧ (g7 j).toInt ≤ 39) := ⟨h11, h12⟩
    exact ret _ _ _ _ x6 (x6, g7, g8, g9) dX12_worms_50 hpo hP hD hS
  have c5 := ci_nle c5
  refine lv_iconst (v := (-1)) hx hb dX12_worms_12 (by decide) ?_
  have hpo : (0 ≤ v12_worms.toInt ∧ v12_worms.toInt ≤ 40) ∧ (∀ j : Nat, 0 ≤ (f12_sorted j).toInt ∧ (f12_sorted j).toInt ≤ 39) := ⟨i5, hf12_sorted⟩
  exact ret _ _ _ _ (-1) (v12_worms, f12_sorted, f12_wormOf, f12_wormSheets) dX12_worms_13 hpo hP hD hS
set_option maxHeartbeats 4000000 in
set_option maxRecDepth 100000 in
theorem k_X12_led (l : Launch) (D : va_G) (κ : Nat → ClassId) (β : Nat) (a12 : Nat) (r12 : Nat → Nat) (v12_keptMany : Int32) (v12_done : Int32) (v12_sheets : Int32) (v12_holes : Int32) (v12_worms : Int32) (v12_laidMany : Int32) (v12_wanted : Int32) (v12_orderMany : Int32) (v12_firstOrder : Int32) (v12_lines : Int32) (v12_marks : Int32) (v12_dots : Int32) (v12_madeIn : Int32) (v12_bound : Int32) (v12_places : Int32) (v12_maps : Int32) (v12_tapeMany : Int32) (v12_stories : Int32) (v12_base : Int32) (v12_at : Int32) (v12_ends : Int32) (v12_fault : Int32) (v12_opened : Int32) (v12_bodies : Int32) (v12_ran : Int32) (v12_ownKind : Int32) (v12_ownNumber : Int32) (f12_sheetOf : Nat → Int32) (f12_placeOf : Nat → Int32) (f12_sorted : Nat → Int32) (f12_wormOf : Nat → Int32) (f12_wormSheets : Nat → Int32) (sz : Nat) (p1 : Int32) (p2 : Int32) (i1 : Rg 0 40 v12_keptMany) (i2 : Rg 0 40 v12_done) (i3 : Rg 0 8 v12_sheets) (i4 : Rg 0 40 v12_holes) (i5 : Rg 0 40 v12_worms) (i6 : Rg 0 8 v12_laidMany) (i7 : Rg 0 8 v12_wanted) (i8 : Rg 0 20 v12_lines) (i9 : Rg 0 60 v12_marks) (i10 : Rg 0 40 v12_dots) (i11 : Rg 0 20 v12_places) (i12 : Rg 0 8 v12_maps) (i13 : Rg 0 120 v12_tapeMany) (i14 : Rg 0 6 v12_stories) (i15 : Rg 0 50 v12_bodies) (i16 : Rg 0 1000 v12_ran) (hf12_sorted : ∀ j : Nat, 0 ≤ (f12_sorted j).toInt ∧ (f12_sorted j).toInt ≤ 39) (i17 : v12_done.toInt ≤ v12_keptMany.toInt) : Met l yX12_led wsX12_led ({ frames := 2, cells := 0, slots := 0, locals := 46 } : Room) (PcK D κ β [O12 a12 r12 v12_keptMany v12_done v12_sheets v12_holes v12_worms v12_laidMany v12_wanted v12_orderMany v12_firstOrder v12_lines v12_marks v12_dots v12_madeIn v12_bound v12_places v12_maps v12_tapeMany v12_stories v12_base v12_at v12_ends v12_fault v12_opened v12_bodies v12_ran v12_ownKind v12_ownNumber, (cI κ (r12 8) 40 f12_sheetOf), (cI κ (r12 9) 40 f12_placeOf), (cI κ (r12 10) 40 f12_sorted), (cI κ (r12 11) 40 f12_wormOf), (cI κ (r12 12) 40 f12_wormSheets)] sz [.ref a12, .int p1, .int p2]) (QiK D (fun (r : Int32) (u : Int32 × (Nat → Int32) × (Nat → Int32) × (Nat → Int32)) => (0 ≤ u.1.toInt ∧ u.1.toInt ≤ 40) ∧ (∀ j : Nat, 0 ≤ (u.2.1 j).toInt ∧ (u.2.1 j).toInt ≤ 39)) (fun (u : Int32 × (Nat → Int32) × (Nat → Int32) × (Nat → Int32)) => [O12 a12 r12 v12_keptMany v12_done v12_sheets v12_holes u.1 v12_laidMany v12_wanted v12_orderMany v12_firstOrder v12_lines v12_marks v12_dots v12_madeIn v12_bound v12_places v12_maps v12_tapeMany v12_stories v12_base v12_at v12_ends v12_fault v12_opened v12_bodies v12_ran v12_ownKind v12_ownNumber, (cI κ (r12 8) 40 f12_sheetOf), (cI κ (r12 9) 40 f12_placeOf), (cI κ (r12 10) 40 u.2.1), (cI κ (r12 11) 40 u.2.2.1), (cI κ (r12 12) 40 u.2.2.2)]) [O12 a12 r12 v12_keptMany v12_done v12_sheets v12_holes v12_worms v12_laidMany v12_wanted v12_orderMany v12_firstOrder v12_lines v12_marks v12_dots v12_madeIn v12_bound v12_places v12_maps v12_tapeMany v12_stories v12_base v12_at v12_ends v12_fault v12_opened v12_bodies v12_ran v12_ownKind v12_ownNumber, (cI κ (r12 8) 40 f12_sheetOf), (cI κ (r12 9) 40 f12_placeOf), (cI κ (r12 10) 40 f12_sorted), (cI κ (r12 11) 40 f12_wormOf), (cI κ (r12 12) 40 f12_wormSheets)] sz) 0 0 (va_A [O12 a12 r12 v12_keptMany v12_done v12_sheets v12_holes v12_worms v12_laidMany v12_wanted v12_orderMany v12_firstOrder v12_lines v12_marks v12_dots v12_madeIn v12_bound v12_places v12_maps v12_tapeMany v12_stories v12_base v12_at v12_ends v12_fault v12_opened v12_bodies v12_ran v12_ownKind v12_ownNumber, (cI κ (r12 8) 40 f12_sheetOf), (cI κ (r12 9) 40 f12_placeOf), (cI κ (r12 10) 40 f12_sorted), (cI κ (r12 11) 40 f12_wormOf), (cI κ (r12 12) 40 f12_wormSheets)] sz) := by
  refine ofK_i (cc := cX12_led) (maxL := 3) (own := RX12) (by decide) rfl rfl (Nat.le_of_ble_eq_true rfl) ?_
  intro p e s m args below meth c Q A ls hsz hx hb hml hts hown hK hA hAB hP hD hl ret
  have hS : va_S A s.heap s.heap [] := va_S.rf
  have hl : lv_has ls 3 [(0, .ref a12), (1, .int p1), (2, .int p2)] := hl
  have w0 := hts (.fieldLink RX12 31 "OlderSkinModel" "wormOf" "[I") (List.mem_of_getElem? (i := 1) rfl)
  have w1 := (fun w h => List.mem_cons_of_mem _ (List.mem_append_right _ h) : ∀ w ∈ u_ws RX12 TX12 63, w ∈ wsX12_led)
  have l0 : (0 : Int32).toInt = 0 := by decide
  have l1 : ((-1) : Int32).toInt = -1 := by decide
  have i4 : 0 ≤ v12_holes.toInt ∧ v12_holes.toInt ≤ 40 := i4
  refine lv_aload_n hx hb dX12_led_0 rfl (lv_at hl 0 rfl) ?_
  refine lv_iload_n hx hb dX12_led_1 rfl (lv_at hl 1 rfl) ?_
  refine kcm_i hA hAB hP hD hS [true, false, false, false, false, false] rfl (fun _ => rfl) (fun hPc hDc => va_runV (As := [.int p1]) (rest := []) ⟨hx, hb, hml, hown, hts⟩ (k_X12_isHole l D κ β a12 r12 v12_keptMany v12_done v12_sheets v12_holes v12_worms v12_laidMany v12_wanted v12_orderMany v12_firstOrder v12_lines v12_marks v12_dots v12_madeIn v12_bound v12_places v12_maps v12_tapeMany v12_stories v12_base v12_at v12_ends v12_fault v12_opened v12_bodies v12_ran v12_ownKind v12_ownNumber s.heap.size p1 i1 i2 i3 i4 i5 i6 i7 i8 i9 i10 i11 i12 i13 i14 i15 i16 i17) (cwV 1 hts gX12_led_X12_isHole rfl rfl rfl (by decide +kernel) ⟨Nat.le_of_ble_eq_true rfl, Nat.le_of_ble_eq_true rfl⟩) (pk_V hK hS hAB hPc hDc 0 (ci := 12) rfl rfl rfl) rfl rfl hl.1 rfl (lv_room (Nat.le_of_ble_eq_true rfl)) dX12_led_2 ⟨Nat.le_of_ble_eq_true rfl, Nat.le_of_ble_eq_true rfl⟩) (fun x1 u2 H locs hw hPD hS => ?_)
  have h3 : (x1.toInt = 1 ∧ 0 ≤ p1.toInt ∧ p1.toInt < v12_holes.toInt) ∨ (x1.toInt = 0 ∧ (p1.toInt < 0 ∨ v12_holes.toInt ≤ p1.toInt)) := hw
  obtain ⟨hP, hD⟩ : PD D A [O12 a12 r12 v12_keptMany v12_done v12_sheets v12_holes v12_worms v12_laidMany v12_wanted v12_orderMany v12_firstOrder v12_lines v12_marks v12_dots v12_madeIn v12_bound v12_places v12_maps v12_tapeMany v12_stories v12_base v12_at v12_ends v12_fault v12_opened v12_bodies v12_ran v12_ownKind v12_ownNumber, (cI κ (r12 8) 40 f12_sheetOf), (cI κ (r12 9) 40 f12_placeOf), (cI κ (r12 10) 40 f12_sorted), (cI κ (r12 11) 40 f12_wormOf), (cI κ (r12 12) 40 f12_wormSheets)] H := hPD
  refine lv_if_eq (tgt := 15) hx hb dX12_led_5 (by decide) (fun c4 => ?_) (fun c4 => ?_)
  · have c4 := ci_eq c4
    refine lv_iconst (v := (-1)) hx hb dX12_led_15 (by decide) ?_
    have hpo : (0 ≤ v12_worms.toInt ∧ v12_worms.toInt ≤ 40) ∧ (∀ j : Nat, 0 ≤ (f12_sorted j).toInt ∧ (f12_sorted j).toInt ≤ 39) := ⟨i5, hf12_sorted⟩
    exact ret _ _ _ _ (-1) (v12_worms, f12_sorted, f12_wormOf, f12_wormSheets) dX12_led_16 hpo hP hD hS
  have c4 := ci_ne c4
  refine lv_iload_n hx hb dX12_led_8 rfl (lv_at hl 2 rfl) ?_
  refine kcm_i hA hAB hP hD hS [false, false, false, false, false, false] rfl (fun _ => rfl) (fun hPc hDc => va_runS (As := [.int p2]) (rest := []) ⟨hx, hb, hml, hown, hts⟩ (k_X12_isSlack l D κ β H.size p2) (va_cwS 1 hts gX12_led_X12_isSlack rfl rfl rfl (by decide +kernel) ⟨Nat.le_of_ble_eq_true rfl, Nat.le_of_ble_eq_true rfl⟩) (pk_S hK hS hAB hPc hDc) rfl rfl hl.1 rfl (lv_room (Nat.le_of_ble_eq_true rfl)) dX12_led_9 ⟨Nat.le_of_ble_eq_true rfl, Nat.le_of_ble_eq_true rfl⟩) (fun x5 u6 H locs hw hPD hS => ?_)
  have h7 : (x5.toInt = 1 ∧ 0 ≤ p2.toInt ∧ p2.toInt ≤ 99) ∨ (x5.toInt = 0 ∧ (p2.toInt < 0 ∨ 99 < p2.toInt)) := hw
  obtain ⟨hP, hD⟩ : PD D A [O12 a12 r12 v12_keptMany v12_done v12_sheets v12_holes v12_worms v12_laidMany v12_wanted v12_orderMany v12_firstOrder v12_lines v12_marks v12_dots v12_madeIn v12_bound v12_places v12_maps v12_tapeMany v12_stories v12_base v12_at v12_ends v12_fault v12_opened v12_bodies v12_ran v12_ownKind v12_ownNumber, (cI κ (r12 8) 40 f12_sheetOf), (cI κ (r12 9) 40 f12_placeOf), (cI κ (r12 10) 40 f12_sorted), (cI κ (r12 11) 40 f12_wormOf), (cI κ (r12 12) 40 f12_wormSheets)] H := hPD
  refine lv_if_ne (tgt := 17) hx hb dX12_led_12 (by decide) (fun c8 => ?_) (fun c8 => ?_)
  · have c8 := ci_ne c8
    refine lv_aload_n hx hb dX12_led_17 rfl (lv_at hl 0 rfl) ?_
    refine lv_iload_n hx hb dX12_led_18 rfl (lv_at hl 2 rfl) ?_
    refine lv_iconst (v := (-1)) hx hb dX12_led_19 (by decide) ?_
    refine kcm_v hA hAB hP hD hS [true, true, true, true, true, true] rfl (fun _ => rfl) (fun hPc hDc => va_runV (As := [.int p2, .int (-1)]) (rest := []) ⟨hx, hb, hml, hown, hts⟩ (k_X12_findWorms l D κ β a12 r12 v12_keptMany v12_done v12_sheets v12_holes v12_worms v12_laidMany v12_wanted v12_orderMany v12_firstOrder v12_lines v12_marks v12_dots v12_madeIn v12_bound v12_places v12_maps v12_tapeMany v12_stories v12_base v12_at v12_ends v12_fault v12_opened v12_bodies v12_ran v12_ownKind v12_ownNumber f12_sheetOf f12_placeOf f12_sorted f12_wormOf f12_wormSheets H.size p2 (-1) i1 i2 i3 i4 i5 i6 i7 i8 i9 i10 i11 i12 i13 i14 i15 i16 hf12_sorted i17) (cwV 2 hts gX12_led_X12_findWorms rfl rfl rfl (by decide +kernel) ⟨Nat.le_of_ble_eq_true rfl, Nat.le_of_ble_eq_true rfl⟩) (pk_V hK hS hAB hPc hDc 0 (ci := 12) rfl rfl rfl) rfl rfl hl.1 rfl (lv_room (Nat.le_of_ble_eq_true rfl)) dX12_led_20 ⟨Nat.le_of_ble_eq_true rfl, Nat.le_of_ble_eq_true rfl⟩) (fun u13 H locs hw hPD hS => ?_)
    obtain ⟨x9, g10, g11, g12⟩ := u13
    obtain ⟨h14, h15⟩ : (Rg 0 40 x9) ∧ (∀ j : Nat, 0 ≤ (g10 j).toInt ∧ (g10 j).toInt ≤ 39) := hw
    obtain ⟨hP, hD⟩ : PD D A [O12 a12 r12 v12_keptMany v12_done v12_sheets v12_holes x9 v12_laidMany v12_wanted v12_orderMany v12_firstOrder v12_lines v12_marks v12_dots v12_madeIn v12_bound v12_places v12_maps v12_tapeMany v12_stories v12_base v12_at v12_ends v12_fault v12_opened v12_bodies v12_ran v12_ownKind v12_ownNumber, (cI κ (r12 8) 40 f12_sheetOf), (cI κ (r12 9) 40 f12_placeOf), (cI κ (r12 10) 40 g10), (cI κ (r12 11) 40 g11), (cI κ (r12 12) 40 g12)] H := hPD
    refine lv_aload_n hx hb dX12_led_23 rfl (lv_at hl 0 rfl) ?_
    refine va_get (D := D) (ci := 12) (v := .ref (r12 11)) (C := RX12) (T := TX12) (N := 63) hx hb hts w1 hown hK.1 hP 0 rfl rfl 11 (by decide) w0 (fun _ h9 => h9) rfl dX12_led_24 ?_
    refine lv_iload_n hx hb dX12_led_27 rfl (lv_at hl 1 rfl) ?_
    refine va_iald hx hb hK.1 hP 4 1 rfl rfl (i := p1) (ix (by omega) (by omega)) dX12_led_28 ?_
    refine lv_topi (fun x16 e17 => ?_)
    have hpo : (0 ≤ x9.toInt ∧ x9.toInt ≤ 40) ∧ (∀ j : Nat, 0 ≤ (g10 j).toInt ∧ (g10 j).toInt ≤ 39) := ⟨h14, h15⟩
    exact ret _ _ _ _ x16 (x9, g10, g11, g12) dX12_led_29 hpo hP hD hS
  have c8 := ci_eq c8
  refine lv_iconst (v := (-1)) hx hb dX12_led_15 (by decide) ?_
  have hpo : (0 ≤ v12_worms.toInt ∧ v12_worms.toInt ≤ 40) ∧ (∀ j : Nat, 0 ≤ (f12_sorted j).toInt ∧ (f12_sorted j).toInt ≤ 39) := ⟨i5, hf12_sorted⟩
  exact ret _ _ _ _ (-1) (v12_worms, f12_sorted, f12_wormOf, f12_wormSheets) dX12_led_16 hpo hP hD hS
set_option maxHeartbeats 4000000 in
set_option maxRecDepth 100000 in
theorem k_X12_line (l : Launch) (D : va_G) (κ : Nat → ClassId) (β : Nat) (a12 : Nat) (r12 : Nat → Nat) (v12_keptMany : Int32) (v12_done : Int32) (v12_sheets : Int32) (v12_holes : Int32) (v12_worms : Int32) (v12_laidMany : Int32) (v12_wanted : Int32) (v12_orderMany : Int32) (v12_firstOrder : Int32) (v12_lines : Int32) (v12_marks : Int32) (v12_dots : Int32) (v12_madeIn : Int32) (v12_bound : Int32) (v12_places : Int32) (v12_maps : Int32) (v12_tapeMany : Int32) (v12_stories : Int32) (v12_base : Int32) (v12_at : Int32) (v12_ends : Int32) (v12_fault : Int32) (v12_opened : Int32) (v12_bodies : Int32) (v12_ran : Int32) (v12_ownKind : Int32) (v12_ownNumber : Int32) (f12_lineSheet : Nat → Int32) (f12_lineInk : Nat → Int32) (sz : Nat) (p1 : Int32) (p2 : Int32) (i1 : Rg 0 40 v12_keptMany) (i2 : Rg 0 40 v12_done) (i3 : Rg 0 8 v12_sheets) (i4 : Rg 0 40 v12_holes) (i5 : Rg 0 40 v12_worms) (i6 : Rg 0 8 v12_laidMany) (i7 : Rg 0 8 v12_wanted) (i8 : Rg 0 20 v12_lines) (i9 : Rg 0 60 v12_marks) (i10 : Rg 0 40 v12_dots) (i11 : Rg 0 20 v12_places) (i12 : Rg 0 8 v12_maps) (i13 : Rg 0 120 v12_tapeMany) (i14 : Rg 0 6 v12_stories) (i15 : Rg 0 50 v12_bodies) (i16 : Rg 0 1000 v12_ran) (i17 : v12_done.toInt ≤ v12_keptMany.toInt) : Met l yX12_line wsX12_line ({ frames := 2, cells := 0, slots := 0, locals := 46 } : Room) (PcK D κ β [O12 a12 r12 v12_keptMany v12_done v12_sheets v12_holes v12_worms v12_laidMany v12_wanted v12_orderMany v12_firstOrder v12_lines v12_marks v12_dots v12_madeIn v12_bound v12_places v12_maps v12_tapeMany v12_stories v12_base v12_at v12_ends v12_fault v12_opened v12_bodies v12_ran v12_ownKind v12_ownNumber, (cI κ (r12 21) 20 f12_lineSheet), (cI κ (r12 22) 20 f12_lineInk)] sz [.ref a12, .int p1, .int p2]) (QiK D (fun (r : Int32) (u : Int32 × (Nat → Int32) × (Nat → Int32)) => (0 ≤ u.1.toInt ∧ u.1.toInt ≤ 20) ∧ ((¬ (0 ≤ p1.toInt ∧ p1.toInt < v12_sheets.toInt ∧ 0 ≤ p2.toInt ∧ p2.toInt ≤ 5) ∧ r.toInt = -1 ∧ u.1.toInt = v12_lines.toInt) ∨ ((0 ≤ p1.toInt ∧ p1.toInt < v12_sheets.toInt ∧ 0 ≤ p2.toInt ∧ p2.toInt ≤ 5) ∧ v12_lines.toInt = 20 ∧ r.toInt = -3 ∧ u.1.toInt = v12_lines.toInt) ∨ ((0 ≤ p1.toInt ∧ p1.toInt < v12_sheets.toInt ∧ 0 ≤ p2.toInt ∧ p2.toInt ≤ 5) ∧ v12_lines.toInt < 20 ∧ r.toInt = v12_lines.toInt ∧ u.1.toInt = v12_lines.toInt + 1))) (fun (u : Int32 × (Nat → Int32) × (Nat → Int32)) => [O12 a12 r12 v12_keptMany v12_done v12_sheets v12_holes v12_worms v12_laidMany v12_wanted v12_orderMany v12_firstOrder u.1 v12_marks v12_dots v12_madeIn v12_bound v12_places v12_maps v12_tapeMany v12_stories v12_base v12_at v12_ends v12_fault v12_opened v12_bodies v12_ran v12_ownKind v12_ownNumber, (cI κ (r12 21) 20 u.2.1), (cI κ (r12 22) 20 u.2.2)]) [O12 a12 r12 v12_keptMany v12_done v12_sheets v12_holes v12_worms v12_laidMany v12_wanted v12_orderMany v12_firstOrder v12_lines v12_marks v12_dots v12_madeIn v12_bound v12_places v12_maps v12_tapeMany v12_stories v12_base v12_at v12_ends v12_fault v12_opened v12_bodies v12_ran v12_ownKind v12_ownNumber, (cI κ (r12 21) 20 f12_lineSheet), (cI κ (r12 22) 20 f12_lineInk)] sz) 0 0 (va_A [O12 a12 r12 v12_keptMany v12_done v12_sheets v12_holes v12_worms v12_laidMany v12_wanted v12_orderMany v12_firstOrder v12_lines v12_marks v12_dots v12_madeIn v12_bound v12_places v12_maps v12_tapeMany v12_stories v12_base v12_at v12_ends v12_fault v12_opened v12_bodies v12_ran v12_ownKind v12_ownNumber, (cI κ (r12 21) 20 f12_lineSheet), (cI κ (r12 22) 20 f12_lineInk)] sz) := by
  refine ofK_i (cc := cX12_line) (maxL := 3) (own := RX12) (by decide) rfl rfl (Nat.le_of_ble_eq_true rfl) ?_
  intro p e s m args below meth c Q A ls hsz hx hb hml hts hown hK hA hAB hP hD hl ret
  have hS : va_S A s.heap s.heap [] := va_S.rf
  have hl : lv_has ls 3 [(0, .ref a12), (1, .int p1), (2, .int p2)] := hl
  have w0 := hts (.fieldLink RX12 200 "OlderSkinModel" "lines" "I") (List.mem_of_getElem? (i := 1) rfl)
  have w1 := (fun w h => List.mem_cons_of_mem _ (List.mem_append_right _ h) : ∀ w ∈ u_ws RX12 TX12 63, w ∈ wsX12_line)
  have w2 := hts (.fieldLink RX12 43 "OlderSkinModel" "lineSheet" "[I") (List.mem_of_getElem? (i := 2) rfl)
  have w3 := hts (.fieldLink RX12 46 "OlderSkinModel" "lineInk" "[I") (List.mem_of_getElem? (i := 3) rfl)
  have l0 : (0 : Int32).toInt = 0 := by decide
  have l1 : ((-1) : Int32).toInt = -1 := by decide
  have l2 : (20 : Int32).toInt = 20 := by decide
  have l3 : (1 : Int32).toInt = 1 := by decide
  have l4 : ((-3) : Int32).toInt = -3 := by decide
  have i3 : 0 ≤ v12_sheets.toInt ∧ v12_sheets.toInt ≤ 8 := i3
  have i8 : 0 ≤ v12_lines.toInt ∧ v12_lines.toInt ≤ 20 := i8
  refine lv_aload_n hx hb dX12_line_0 rfl (lv_at hl 0 rfl) ?_
  refine lv_iload_n hx hb dX12_line_1 rfl (lv_at hl 1 rfl) ?_
  refine kcm_i hA hAB hP hD hS [true, false, false] rfl (fun _ => rfl) (fun hPc hDc => va_runV (As := [.int p1]) (rest := []) ⟨hx, hb, hml, hown, hts⟩ (k_X12_isSheet l D κ β a12 r12 v12_keptMany v12_done v12_sheets v12_holes v12_worms v12_laidMany v12_wanted v12_orderMany v12_firstOrder v12_lines v12_marks v12_dots v12_madeIn v12_bound v12_places v12_maps v12_tapeMany v12_stories v12_base v12_at v12_ends v12_fault v12_opened v12_bodies v12_ran v12_ownKind v12_ownNumber s.heap.size p1 i1 i2 i3 i4 i5 i6 i7 i8 i9 i10 i11 i12 i13 i14 i15 i16 i17) (cwV 1 hts gX12_line_X12_isSheet rfl rfl rfl (by decide +kernel) ⟨Nat.le_of_ble_eq_true rfl, Nat.le_of_ble_eq_true rfl⟩) (pk_V hK hS hAB hPc hDc 0 (ci := 12) rfl rfl rfl) rfl rfl hl.1 rfl (lv_room (Nat.le_of_ble_eq_true rfl)) dX12_line_2 ⟨Nat.le_of_ble_eq_true rfl, Nat.le_of_ble_eq_true rfl⟩) (fun x1 u2 H locs hw hPD hS => ?_)
  have h3 : (x1.toInt = 1 ∧ 0 ≤ p1.toInt ∧ p1.toInt < v12_sheets.toInt) ∨ (x1.toInt = 0 ∧ (p1.toInt < 0 ∨ v12_sheets.toInt ≤ p1.toInt)) := hw
  obtain ⟨hP, hD⟩ : PD D A [O12 a12 r12 v12_keptMany v12_done v12_sheets v12_holes v12_worms v12_laidMany v12_wanted v12_orderMany v12_firstOrder v12_lines v12_marks v12_dots v12_madeIn v12_bound v12_places v12_maps v12_tapeMany v12_stories v12_base v12_at v12_ends v12_fault v12_opened v12_bodies v12_ran v12_ownKind v12_ownNumber, (cI κ (r12 21) 20 f12_lineSheet), (cI κ (r12 22) 20 f12_lineInk)] H := hPD
  refine lv_if_eq (tgt := 15) hx hb dX12_line_5 (by decide) (fun c4 => ?_) (fun c4 => ?_)
  · have c4 := ci_eq c4
    refine lv_iconst (v := (-1)) hx hb dX12_line_15 (by decide) ?_
    have hpo : (0 ≤ v12_lines.toInt ∧ v12_lines.toInt ≤ 20) ∧ ((¬ (0 ≤ p1.toInt ∧ p1.toInt < v12_sheets.toInt ∧ 0 ≤ p2.toInt ∧ p2.toInt ≤ 5) ∧ ((-1) : Int32).toInt = -1 ∧ v12_lines.toInt = v12_lines.toInt) ∨ ((0 ≤ p1.toInt ∧ p1.toInt < v12_sheets.toInt ∧ 0 ≤ p2.toInt ∧ p2.toInt ≤ 5) ∧ v12_lines.toInt = 20 ∧ ((-1) : Int32).toInt = -3 ∧ v12_lines.toInt = v12_lines.toInt) ∨ ((0 ≤ p1.toInt ∧ p1.toInt < v12_sheets.toInt ∧ 0 ≤ p2.toInt ∧ p2.toInt ≤ 5) ∧ v12_lines.toInt < 20 ∧ ((-1) : Int32).toInt = v12_lines.toInt ∧ v12_lines.toInt = v12_lines.toInt + 1)) := ⟨i8, (by omega)⟩
    exact ret _ _ _ _ (-1) (v12_lines, f12_lineSheet, f12_lineInk) dX12_line_16 hpo hP hD hS
  have c4 := ci_ne c4
  refine lv_iload_n hx hb dX12_line_8 rfl (lv_at hl 2 rfl) ?_
  refine kcm_i hA hAB hP hD hS [false, false, false] rfl (fun _ => rfl) (fun hPc hDc => va_runS (As := [.int p2]) (rest := []) ⟨hx, hb, hml, hown, hts⟩ (k_X12_isInk l D κ β H.size p2) (va_cwS 1 hts gX12_line_X12_isInk rfl rfl rfl (by decide +kernel) ⟨Nat.le_of_ble_eq_true rfl, Nat.le_of_ble_eq_true rfl⟩) (pk_S hK hS hAB hPc hDc) rfl rfl hl.1 rfl (lv_room (Nat.le_of_ble_eq_true rfl)) dX12_line_9 ⟨Nat.le_of_ble_eq_true rfl, Nat.le_of_ble_eq_true rfl⟩) (fun x5 u6 H locs hw hPD hS => ?_)
  have h7 : (x5.toInt = 1 ∧ 0 ≤ p2.toInt ∧ p2.toInt ≤ 5) ∨ (x5.toInt = 0 ∧ (p2.toInt < 0 ∨ 5 < p2.toInt)) := hw
  obtain ⟨hP, hD⟩ : PD D A [O12 a12 r12 v12_keptMany v12_done v12_sheets v12_holes v12_worms v12_laidMany v12_wanted v12_orderMany v12_firstOrder v12_lines v12_marks v12_dots v12_madeIn v12_bound v12_places v12_maps v12_tapeMany v12_stories v12_base v12_at v12_ends v12_fault v12_opened v12_bodies v12_ran v12_ownKind v12_ownNumber, (cI κ (r12 21) 20 f12_lineSheet), (cI κ (r12 22) 20 f12_lineInk)] H := hPD
  refine lv_if_ne (tgt := 17) hx hb dX12_line_12 (by decide) (fun c8 => ?_) (fun c8 => ?_)
  · have c8 := ci_ne c8
    refine lv_aload_n hx hb dX12_line_17 rfl (lv_at hl 0 rfl) ?_
    refine va_get (D := D) (ci := 12) (v := .int v12_lines) (C := RX12) (T := TX12) (N := 63) hx hb hts w1 hown hK.1 hP 0 rfl rfl 20 (by decide) w0 (fun _ h9 => h9) rfl dX12_line_18 ?_
    refine lv_bipush (v := 20) hx hb dX12_line_21 (by decide) ?_
    refine lv_icmp_ne (tgt := 29) hx hb dX12_line_23 (by decide) (fun c9 => ?_) (fun c9 => ?_)
    · have c9 := ci_ne c9
      refine lv_aload_n hx hb dX12_line_29 rfl (lv_at hl 0 rfl) ?_
      refine va_get (D := D) (ci := 12) (v := .ref (r12 21)) (C := RX12) (T := TX12) (N := 63) hx hb hts w1 hown hK.1 hP 0 rfl rfl 21 (by decide) w2 (fun _ h9 => h9) rfl dX12_line_30 ?_
      refine lv_aload_n hx hb dX12_line_33 rfl (lv_at hl 0 rfl) ?_
      refine va_get (D := D) (ci := 12) (v := .int v12_lines) (C := RX12) (T := TX12) (N := 63) hx hb hts w1 hown hK.1 hP 0 rfl rfl 20 (by decide) w0 (fun _ h9 => h9) rfl dX12_line_34 ?_
      refine lv_iload_n hx hb dX12_line_37 rfl (lv_at hl 1 rfl) ?_
      refine va_iast hx hb hK.1 hP hD hS 1 1 rfl rfl (i := v12_lines) (ix (by omega) (by omega)) dX12_line_38 (fun H locs hP hD hS => ?_)
      obtain ⟨g10, e11⟩ : ∃ y : Nat → Int32, y = upd f12_lineSheet v12_lines.toNatClampNeg p1 := ⟨_, rfl⟩
      rw [← e11] at hP hD
      obtain ⟨hP, hD⟩ : PD D A [O12 a12 r12 v12_keptMany v12_done v12_sheets v12_holes v12_worms v12_laidMany v12_wanted v12_orderMany v12_firstOrder v12_lines v12_marks v12_dots v12_madeIn v12_bound v12_places v12_maps v12_tapeMany v12_stories v12_base v12_at v12_ends v12_fault v12_opened v12_bodies v12_ran v12_ownKind v12_ownNumber, (cI κ (r12 21) 20 g10), (cI κ (r12 22) 20 f12_lineInk)] H := ⟨hP, hD⟩
      refine lv_aload_n hx hb dX12_line_39 rfl (lv_at hl 0 rfl) ?_
      refine va_get (D := D) (ci := 12) (v := .ref (r12 22)) (C := RX12) (T := TX12) (N := 63) hx hb hts w1 hown hK.1 hP 0 rfl rfl 22 (by decide) w3 (fun _ h9 => h9) rfl dX12_line_40 ?_
      refine lv_aload_n hx hb dX12_line_43 rfl (lv_at hl 0 rfl) ?_
      refine va_get (D := D) (ci := 12) (v := .int v12_lines) (C := RX12) (T := TX12) (N := 63) hx hb hts w1 hown hK.1 hP 0 rfl rfl 20 (by decide) w0 (fun _ h9 => h9) rfl dX12_line_44 ?_
      refine lv_iload_n hx hb dX12_line_47 rfl (lv_at hl 2 rfl) ?_
      refine va_iast hx hb hK.1 hP hD hS 2 1 rfl rfl (i := v12_lines) (ix (by omega) (by omega)) dX12_line_48 (fun H locs hP hD hS => ?_)
      obtain ⟨g12, e13⟩ : ∃ y : Nat → Int32, y = upd f12_lineInk v12_lines.toNatClampNeg p2 := ⟨_, rfl⟩
      rw [← e13] at hP hD
      obtain ⟨hP, hD⟩ : PD D A [O12 a12 r12 v12_keptMany v12_done v12_sheets v12_holes v12_worms v12_laidMany v12_wanted v12_orderMany v12_firstOrder v12_lines v12_marks v12_dots v12_madeIn v12_bound v12_places v12_maps v12_tapeMany v12_stories v12_base v12_at v12_ends v12_fault v12_opened v12_bodies v12_ran v12_ownKind v12_ownNumber, (cI κ (r12 21) 20 g10), (cI κ (r12 22) 20 g12)] H := ⟨hP, hD⟩
      refine lv_aload_n hx hb dX12_line_49 rfl (lv_at hl 0 rfl) ?_
      refine lv_dup hx hb dX12_line_50 rfl ?_
      refine va_get (D := D) (ci := 12) (v := .int v12_lines) (C := RX12) (T := TX12) (N := 63) hx hb hts w1 hown hK.1 hP 0 rfl rfl 20 (by decide) w0 (fun _ h9 => h9) rfl dX12_line_51 ?_
      refine lv_iconst (v := 1) hx hb dX12_line_54 (by decide) ?_
      refine lv_iadd hx hb dX12_line_55 ?_
      refine lv_topi (fun x14 e15 => ?_)
      try have h16 : x14.toInt = v12_lines.toInt + (1 : Int32).toInt := ci_add e15 (by omega) (by omega)
      refine va_put (D := D) (ci := 12) (v := .int x14) (ty := .int) (C := RX12) (T := TX12) (N := 63) hx hb hts w1 tyX12 tyX12_ok nmX12 hown hK.1 hP hD hS 0 rfl rfl 20 (by decide) w0 (fun _ h9 => h9) rfl (by decide +kernel) rfl rfl (Nat.le_of_ble_eq_true rfl) dX12_line_56 (fun H locs hP hD hS => ?_)
      obtain ⟨hP, hD⟩ : PD D A [O12 a12 r12 v12_keptMany v12_done v12_sheets v12_holes v12_worms v12_laidMany v12_wanted v12_orderMany v12_firstOrder x14 v12_marks v12_dots v12_madeIn v12_bound v12_places v12_maps v12_tapeMany v12_stories v12_base v12_at v12_ends v12_fault v12_opened v12_bodies v12_ran v12_ownKind v12_ownNumber, (cI κ (r12 21) 20 g10), (cI κ (r12 22) 20 g12)] H := ⟨hP, hD⟩
      have h17 : 0 ≤ x14.toInt ∧ x14.toInt ≤ 20 := by omega
      refine lv_aload_n hx hb dX12_line_59 rfl (lv_at hl 0 rfl) ?_
      refine va_get (D := D) (ci := 12) (v := .int x14) (C := RX12) (T := TX12) (N := 63) hx hb hts w1 hown hK.1 hP 0 rfl rfl 20 (by decide) w0 (fun _ h9 => h9) rfl dX12_line_60 ?_
      refine lv_iconst (v := 1) hx hb dX12_line_63 (by decide) ?_
      refine lv_isub hx hb dX12_line_64 ?_
      refine lv_topi (fun x18 e19 => ?_)
      try have h20 : x18.toInt = x14.toInt - (1 : Int32).toInt := ci_sub e19 (by omega) (by omega)
      have hpo : (0 ≤ x14.toInt ∧ x14.toInt ≤ 20) ∧ ((¬ (0 ≤ p1.toInt ∧ p1.toInt < v12_sheets.toInt ∧ 0 ≤ p2.toInt ∧ p2.toInt ≤ 5) ∧ x18.toInt = -1 ∧ x14.toInt = v12_lines.toInt) ∨ ((0 ≤ p1.toInt ∧ p1.toInt < v12_sheets.toInt ∧ 0 ≤ p2.toInt ∧ p2.toInt ≤ 5) ∧ v12_lines.toInt = 20 ∧ x18.toInt = -3 ∧ x14.toInt = v12_lines.toInt) ∨ ((0 ≤ p1.toInt ∧ p1.toInt < v12_sheets.toInt ∧ 0 ≤ p2.toInt ∧ p2.toInt ≤ 5) ∧ v12_lines.toInt < 20 ∧ x18.toInt = v12_lines.toInt ∧ x14.toInt = v12_lines.toInt + 1)) := ⟨h17, (by omega)⟩
      exact ret _ _ _ _ x18 (x14, g10, g12) dX12_line_65 hpo hP hD hS
    have c9 := ci_eq c9
    refine lv_bipush (v := (-3)) hx hb dX12_line_26 (by decide) ?_
    have hpo : (0 ≤ v12_lines.toInt ∧ v12_lines.toInt ≤ 20) ∧ ((¬ (0 ≤ p1.toInt ∧ p1.toInt < v12_sheets.toInt ∧ 0 ≤ p2.toInt ∧ p2.toInt ≤ 5) ∧ ((-3) : Int32).toInt = -1 ∧ v12_lines.toInt = v12_lines.toInt) ∨ ((0 ≤ p1.toInt ∧ p1.toInt < v12_sheets.toInt ∧ 0 ≤ p2.toInt ∧ p2.toInt ≤ 5) ∧ v12_lines.toInt = 20 ∧ ((-3) : Int32).toInt = -3 ∧ v12_lines.toInt = v12_lines.toInt) ∨ ((0 ≤ p1.toInt ∧ p1.toInt < v12_sheets.toInt ∧ 0 ≤ p2.toInt ∧ p2.toInt ≤ 5) ∧ v12_lines.toInt < 20 ∧ ((-3) : Int32).toInt = v12_lines.toInt ∧ v12_lines.toInt = v12_lines.toInt + 1)) := ⟨i8, (by omega)⟩
    exact ret _ _ _ _ (-3) (v12_lines, f12_lineSheet, f12_lineInk) dX12_line_28 hpo hP hD hS
  have c8 := ci_eq c8
  refine lv_iconst (v := (-1)) hx hb dX12_line_15 (by decide) ?_
  have hpo : (0 ≤ v12_lines.toInt ∧ v12_lines.toInt ≤ 20) ∧ ((¬ (0 ≤ p1.toInt ∧ p1.toInt < v12_sheets.toInt ∧ 0 ≤ p2.toInt ∧ p2.toInt ≤ 5) ∧ ((-1) : Int32).toInt = -1 ∧ v12_lines.toInt = v12_lines.toInt) ∨ ((0 ≤ p1.toInt ∧ p1.toInt < v12_sheets.toInt ∧ 0 ≤ p2.toInt ∧ p2.toInt ≤ 5) ∧ v12_lines.toInt = 20 ∧ ((-1) : Int32).toInt = -3 ∧ v12_lines.toInt = v12_lines.toInt) ∨ ((0 ≤ p1.toInt ∧ p1.toInt < v12_sheets.toInt ∧ 0 ≤ p2.toInt ∧ p2.toInt ≤ 5) ∧ v12_lines.toInt < 20 ∧ ((-1) : Int32).toInt = v12_lines.toInt ∧ v12_lines.toInt = v12_lines.toInt + 1)) := ⟨i8, (by omega)⟩
  exact ret _ _ _ _ (-1) (v12_lines, f12_lineSheet, f12_lineInk) dX12_line_16 hpo hP hD hS
set_option maxHeartbeats 4000000 in
set_option maxRecDepth 100000 in
theorem k_X12_mark (l : Launch) (D : va_G) (κ : Nat → ClassId) (β : Nat) (a12 : Nat) (r12 : Nat → Nat) (v12_keptMany : Int32) (v12_done : Int32) (v12_sheets : Int32) (v12_holes : Int32) (v12_worms : Int32) (v12_laidMany : Int32) (v12_wanted : Int32) (v12_orderMany : Int32) (v12_firstOrder : Int32) (v12_lines : Int32) (v12_marks : Int32) (v12_dots : Int32) (v12_madeIn : Int32) (v12_bound : Int32) (v12_places : Int32) (v12_maps : Int32) (v12_tapeMany : Int32) (v12_stories : Int32) (v12_base : Int32) (v12_at : Int32) (v12_ends : Int32) (v12_fault : Int32) (v12_opened : Int32) (v12_bodies : Int32) (v12_ran : Int32) (v12_ownKind : Int32) (v12_ownNumber : Int32) (f12_sheetOf : Nat → Int32) (f12_lineSheet : Nat → Int32) (f12_markLine : Nat → Int32) (f12_markHole : Nat → Int32) (f12_isOver : Nat → Int32) (sz : Nat) (p1 : Int32) (p2 : Int32) (i1 : Rg 0 40 v12_keptMany) (i2 : Rg 0 40 v12_done) (i3 : Rg 0 8 v12_sheets) (i4 : Rg 0 40 v12_holes) (i5 : Rg 0 40 v12_worms) (i6 : Rg 0 8 v12_laidMany) (i7 : Rg 0 8 v12_wanted) (i8 : Rg 0 20 v12_lines) (i9 : Rg 0 60 v12_marks) (i10 : Rg 0 40 v12_dots) (i11 : Rg 0 20 v12_places) (i12 : Rg 0 8 v12_maps) (i13 : Rg 0 120 v12_tapeMany) (i14 : Rg 0 6 v12_stories) (i15 : Rg 0 50 v12_bodies) (i16 : Rg 0 1000 v12_ran) (hf12_markLine : ∀ j : Nat, 0 ≤ (f12_markLine j).toInt ∧ (f12_markLine j).toInt ≤ 19) (hf12_markHole : ∀ j : Nat, 0 ≤ (f12_markHole j).toInt ∧ (f12_markHole j).toInt ≤ 39) (i17 : v12_done.toInt ≤ v12_keptMany.toInt) : Met l yX12_mark wsX12_mark ({ frames := 2, cells := 0, slots := 0, locals := 46 } : Room) (PcK D κ β [O12 a12 r12 v12_keptMany v12_done v12_sheets v12_holes v12_worms v12_laidMany v12_wanted v12_orderMany v12_firstOrder v12_lines v12_marks v12_dots v12_madeIn v12_bound v12_places v12_maps v12_tapeMany v12_stories v12_base v12_at v12_ends v12_fault v12_opened v12_bodies v12_ran v12_ownKind v12_ownNumber, (cI κ (r12 8) 40 f12_sheetOf), (cI κ (r12 21) 20 f12_lineSheet), (cI κ (r12 24) 60 f12_markLine), (cI κ (r12 25) 60 f12_markHole), (cZ κ (r12 26) 60 f12_isOver)] sz [.ref a12, .int p1, .int p2]) (QiK D (fun (r : Int32) (u : Int32 × (Nat → Int32) × (Nat → Int32) × (Nat → Int32)) => (0 ≤ u.1.toInt ∧ u.1.toInt ≤ 60) ∧ (∀ j : Nat, 0 ≤ (u.2.1 j).toInt ∧ (u.2.1 j).toInt ≤ 19) ∧ (∀ j : Nat, 0 ≤ (u.2.2.1 j).toInt ∧ (u.2.2.1 j).toInt ≤ 39)) (fun (u : Int32 × (Nat → Int32) × (Nat → Int32) × (Nat → Int32)) => [O12 a12 r12 v12_keptMany v12_done v12_sheets v12_holes v12_worms v12_laidMany v12_wanted v12_orderMany v12_firstOrder v12_lines u.1 v12_dots v12_madeIn v12_bound v12_places v12_maps v12_tapeMany v12_stories v12_base v12_at v12_ends v12_fault v12_opened v12_bodies v12_ran v12_ownKind v12_ownNumber, (cI κ (r12 8) 40 f12_sheetOf), (cI κ (r12 21) 20 f12_lineSheet), (cI κ (r12 24) 60 u.2.1), (cI κ (r12 25) 60 u.2.2.1), (cZ κ (r12 26) 60 u.2.2.2)]) [O12 a12 r12 v12_keptMany v12_done v12_sheets v12_holes v12_worms v12_laidMany v12_wanted v12_orderMany v12_firstOrder v12_lines v12_marks v12_dots v12_madeIn v12_bound v12_places v12_maps v12_tapeMany v12_stories v12_base v12_at v12_ends v12_fault v12_opened v12_bodies v12_ran v12_ownKind v12_ownNumber, (cI κ (r12 8) 40 f12_sheetOf), (cI κ (r12 21) 20 f12_lineSheet), (cI κ (r12 24) 60 f12_markLine), (cI κ (r12 25) 60 f12_markHole), (cZ κ (r12 26) 60 f12_isOver)] sz) 0 0 (va_A [O12 a12 r12 v12_keptMany v12_done v12_sheets v12_holes v12_worms v12_laidMany v12_wanted v12_orderMany v12_firstOrder v12_lines v12_marks v12_dots v12_madeIn v12_bound v12_places v12_maps v12_tapeMany v12_stories v12_base v12_at v12_ends v12_fault v12_opened v12_bodies v12_ran v12_ownKind v12_ownNumber, (cI κ (r12 8) 40 f12_sheetOf), (cI κ (r12 21) 20 f12_lineSheet), (cI κ (r12 24) 60 f12_markLine), (cI κ (r12 25) 60 f12_markHole), (cZ κ (r12 26) 60 f12_isOver)] sz) := by
  refine ofK_i (cc := cX12_mark) (maxL := 4) (own := RX12) (by decide) rfl rfl (Nat.le_of_ble_eq_true rfl) ?_
  intro p e s m args below meth c Q A ls hsz hx hb hml hts hown hK hA hAB hP hD hl ret
  have hS : va_S A s.heap s.heap [] := va_S.rf
  have hl : lv_has ls 4 [(0, .ref a12), (1, .int p1), (2, .int p2)] := hl
  have w0 := hts (.fieldLink RX12 200 "OlderSkinModel" "lines" "I") (List.mem_of_getElem? (i := 1) rfl)
  have w1 := (fun w h => List.mem_cons_of_mem _ (List.mem_append_right _ h) : ∀ w ∈ u_ws RX12 TX12 63, w ∈ wsX12_mark)
  have w2 := hts (.fieldLink RX12 22 "OlderSkinModel" "sheetOf" "[I") (List.mem_of_getElem? (i := 2) rfl)
  have w3 := hts (.fieldLink RX12 43 "OlderSkinModel" "lineSheet" "[I") (List.mem_of_getElem? (i := 3) rfl)
  have w4 := hts (.fieldLink RX12 203 "OlderSkinModel" "marks" "I") (List.mem_of_getElem? (i := 4) rfl)
  have w5 := hts (.fieldLink RX12 49 "OlderSkinModel" "markLine" "[I") (List.mem_of_getElem? (i := 5) rfl)
  have w6 := hts (.fieldLink RX12 52 "OlderSkinModel" "markHole" "[I") (List.mem_of_getElem? (i := 6) rfl)
  have w7 := hts (.fieldLink RX12 55 "OlderSkinModel" "isOver" "[Z") (List.mem_of_getElem? (i := 7) rfl)
  have l0 : (0 : Int32).toInt = 0 := by decide
  have l1 : ((-1) : Int32).toInt = -1 := by decide
  have l2 : (100 : Int32).toInt = 100 := by decide
  have l3 : (0 : Int64).toInt = 0 := by decide
  have l4 : (1 : Int32).toInt = 1 := by decide
  have l5 : (1 : Int64).toInt = 1 := by decide
  have l6 : (60 : Int32).toInt = 60 := by decide
  have l7 : ((-3) : Int32).toInt = -3 := by decide
  have i4 : 0 ≤ v12_holes.toInt ∧ v12_holes.toInt ≤ 40 := i4
  have i8 : 0 ≤ v12_lines.toInt ∧ v12_lines.toInt ≤ 20 := i8
  have i9 : 0 ≤ v12_marks.toInt ∧ v12_marks.toInt ≤ 60 := i9
  refine lv_iload_n hx hb dX12_mark_0 rfl (lv_at hl 1 rfl) ?_
  refine lv_if_lt (tgt := 65) hx hb dX12_mark_1 (by decide) (fun c1 => ?_) (fun c1 => ?_)
  · have c1 := ci_lt c1
    refine lv_iconst (v := (-1)) hx hb dX12_mark_65 (by decide) ?_
    have hpo : (0 ≤ v12_marks.toInt ∧ v12_marks.toInt ≤ 60) ∧ (∀ j : Nat, 0 ≤ (f12_markLine j).toInt ∧ (f12_markLine j).toInt ≤ 19) ∧ (∀ j : Nat, 0 ≤ (f12_markHole j).toInt ∧ (f12_markHole j).toInt ≤ 39) := ⟨i9, hf12_markLine, hf12_markHole⟩
    exact ret _ _ _ _ (-1) (v12_marks, f12_markLine, f12_markHole, f12_isOver) dX12_mark_66 hpo hP hD hS
  have c1 := ci_nlt c1
  refine lv_iload_n hx hb dX12_mark_4 rfl (lv_at hl 1 rfl) ?_
  refine lv_bipush (v := 100) hx hb dX12_mark_5 (by decide) ?_
  refine lv_idiv hx hb dX12_mark_7 (by decide) ?_
  refine lv_topi (fun x2 e3 => ?_)
  have h4 := ci_divL (n := 100) (by decide) (by decide) e3
  refine lv_i2l hx hb dX12_mark_8 rfl ?_
  refine lv_topl (fun x5 e6 => ?_)
  have h7 : x5.toInt = x2.toInt := cl_i2l e6
  refine lv_lconst (v := (0 : Int64)) hx hb dX12_mark_9 (by decide) ?_
  refine lv_aload_n hx hb dX12_mark_10 rfl (lv_at hl 0 rfl) ?_
  refine va_get (D := D) (ci := 12) (v := .int v12_lines) (C := RX12) (T := TX12) (N := 63) hx hb hts w1 hown hK.1 hP 0 rfl rfl 20 (by decide) w0 (fun _ h9 => h9) rfl dX12_mark_11 ?_
  refine lv_iconst (v := 1) hx hb dX12_mark_14 (by decide) ?_
  refine lv_isub hx hb dX12_mark_15 ?_
  refine lv_topi (fun x8 e9 => ?_)
  try have h10 : x8.toInt = v12_lines.toInt - (1 : Int32).toInt := ci_sub e9 (by omega) (by omega)
  refine lv_i2l hx hb dX12_mark_16 rfl ?_
  refine lv_topl (fun x11 e12 => ?_)
  have h13 : x11.toInt = x8.toInt := cl_i2l e12
  refine kcm_i hA hAB hP hD hS [false, false, false, false, false, false] rfl (fun _ => rfl) (fun hPc hDc => va_runS (As := [.long x5, .long (0 : Int64), .long x11]) (rest := []) ⟨hx, hb, hml, hown, hts⟩ (k_X12_within l D κ β s.heap.size x5 (0 : Int64) x11) (va_cwS 3 hts gX12_mark_X12_within rfl rfl rfl (by decide +kernel) ⟨Nat.le_of_ble_eq_true rfl, Nat.le_of_ble_eq_true rfl⟩) (pk_S hK hS hAB hPc hDc) rfl rfl hl.1 rfl (lv_room (Nat.le_of_ble_eq_true rfl)) dX12_mark_17 ⟨Nat.le_of_ble_eq_true rfl, Nat.le_of_ble_eq_true rfl⟩) (fun x14 u15 H locs hw hPD hS => ?_)
  have h16 : (x14.toInt = 1 ∧ (0 : Int64).toInt ≤ x5.toInt ∧ x5.toInt ≤ x11.toInt) ∨ (x14.toInt = 0 ∧ (x5.toInt < (0 : Int64).toInt ∨ x11.toInt < x5.toInt)) := hw
  obtain ⟨hP, hD⟩ : PD D A [O12 a12 r12 v12_keptMany v12_done v12_sheets v12_holes v12_worms v12_laidMany v12_wanted v12_orderMany v12_firstOrder v12_lines v12_marks v12_dots v12_madeIn v12_bound v12_places v12_maps v12_tapeMany v12_stories v12_base v12_at v12_ends v12_fault v12_opened v12_bodies v12_ran v12_ownKind v12_ownNumber, (cI κ (r12 8) 40 f12_sheetOf), (cI κ (r12 21) 20 f12_lineSheet), (cI κ (r12 24) 60 f12_markLine), (cI κ (r12 25) 60 f12_markHole), (cZ κ (r12 26) 60 f12_isOver)] H := hPD
  refine lv_if_eq (tgt := 65) hx hb dX12_mark_20 (by decide) (fun c17 => ?_) (fun c17 => ?_)
  · have c17 := ci_eq c17
    refine lv_iconst (v := (-1)) hx hb dX12_mark_65 (by decide) ?_
    have hpo : (0 ≤ v12_marks.toInt ∧ v12_marks.toInt ≤ 60) ∧ (∀ j : Nat, 0 ≤ (f12_markLine j).toInt ∧ (f12_markLine j).toInt ≤ 19) ∧ (∀ j : Nat, 0 ≤ (f12_markHole j).toInt ∧ (f12_markHole j).toInt ≤ 39) := ⟨i9, hf12_markLine, hf12_markHole⟩
    exact ret _ _ _ _ (-1) (v12_marks, f12_markLine, f12_markHole, f12_isOver) dX12_mark_66 hpo hP hD hS
  have c17 := ci_ne c17
  refine lv_aload_n hx hb dX12_mark_23 rfl (lv_at hl 0 rfl) ?_
  refine lv_iload_n hx hb dX12_mark_24 rfl (lv_at hl 1 rfl) ?_
  refine lv_bipush (v := 100) hx hb dX12_mark_25 (by decide) ?_
  refine lv_irem hx hb dX12_mark_27 (by decide) ?_
  refine lv_topi (fun x18 e19 => ?_)
  have h20 := ci_remL (n := 100) (by decide) (by decide) e19
  refine kcm_i hA hAB hP hD hS [true, false, false, false, false, false] rfl (fun _ => rfl) (fun hPc hDc => va_runV (As := [.int x18]) (rest := []) ⟨hx, hb, hml, hown, hts⟩ (k_X12_isHole l D κ β a12 r12 v12_keptMany v12_done v12_sheets v12_holes v12_worms v12_laidMany v12_wanted v12_orderMany v12_firstOrder v12_lines v12_marks v12_dots v12_madeIn v12_bound v12_places v12_maps v12_tapeMany v12_stories v12_base v12_at v12_ends v12_fault v12_opened v12_bodies v12_ran v12_ownKind v12_ownNumber H.size x18 i1 i2 i3 i4 i5 i6 i7 i8 i9 i10 i11 i12 i13 i14 i15 i16 i17) (cwV 1 hts gX12_mark_X12_isHole rfl rfl rfl (by decide +kernel) ⟨Nat.le_of_ble_eq_true rfl, Nat.le_of_ble_eq_true rfl⟩) (pk_V hK hS hAB hPc hDc 0 (ci := 12) rfl rfl rfl) rfl rfl hl.1 rfl (lv_room (Nat.le_of_ble_eq_true rfl)) dX12_mark_28 ⟨Nat.le_of_ble_eq_true rfl, Nat.le_of_ble_eq_true rfl⟩) (fun x21 u22 H locs hw hPD hS => ?_)
  have h23 : (x21.toInt = 1 ∧ 0 ≤ x18.toInt ∧ x18.toInt < v12_holes.toInt) ∨ (x21.toInt = 0 ∧ (x18.toInt < 0 ∨ v12_holes.toInt ≤ x18.toInt)) := hw
  obtain ⟨hP, hD⟩ : PD D A [O12 a12 r12 v12_keptMany v12_done v12_sheets v12_holes v12_worms v12_laidMany v12_wanted v12_orderMany v12_firstOrder v12_lines v12_marks v12_dots v12_madeIn v12_bound v12_places v12_maps v12_tapeMany v12_stories v12_base v12_at v12_ends v12_fault v12_opened v12_bodies v12_ran v12_ownKind v12_ownNumber, (cI κ (r12 8) 40 f12_sheetOf), (cI κ (r12 21) 20 f12_lineSheet), (cI κ (r12 24) 60 f12_markLine), (cI κ (r12 25) 60 f12_markHole), (cZ κ (r12 26) 60 f12_isOver)] H := hPD
  refine lv_if_eq (tgt := 65) hx hb dX12_mark_31 (by decide) (fun c24 => ?_) (fun c24 => ?_)
  · have c24 := ci_eq c24
    refine lv_iconst (v := (-1)) hx hb dX12_mark_65 (by decide) ?_
    have hpo : (0 ≤ v12_marks.toInt ∧ v12_marks.toInt ≤ 60) ∧ (∀ j : Nat, 0 ≤ (f12_markLine j).toInt ∧ (f12_markLine j).toInt ≤ 19) ∧ (∀ j : Nat, 0 ≤ (f12_markHole j).toInt ∧ (f12_markHole j).toInt ≤ 39) := ⟨i9, hf12_markLine, hf12_markHole⟩
    exact ret _ _ _ _ (-1) (v12_marks, f12_markLine, f12_markHole, f12_isOver) dX12_mark_66 hpo hP hD hS
  have c24 := ci_ne c24
  refine lv_aload_n hx hb dX12_mark_34 rfl (lv_at hl 0 rfl) ?_
  refine va_get (D := D) (ci := 12) (v := .ref (r12 8)) (C := RX12) (T := TX12) (N := 63) hx hb hts w1 hown hK.1 hP 0 rfl rfl 8 (by decide) w2 (fun _ h9 => h9) rfl dX12_mark_35 ?_
  refine lv_iload_n hx hb dX12_mark_38 rfl (lv_at hl 1 rfl) ?_
  refine lv_bipush (v := 100) hx hb dX12_mark_39 (by decide) ?_
  refine lv_irem hx hb dX12_mark_41 (by decide) ?_
  refine lv_re e19 ?_
  refine va_iald hx hb hK.1 hP 1 1 rfl rfl (i := x18) (ix (by omega) (by omega)) dX12_mark_42 ?_
  refine lv_topi (fun x25 e26 => ?_)
  refine lv_aload_n hx hb dX12_mark_43 rfl (lv_at hl 0 rfl) ?_
  refine va_get (D := D) (ci := 12) (v := .ref (r12 21)) (C := RX12) (T := TX12) (N := 63) hx hb hts w1 hown hK.1 hP 0 rfl rfl 21 (by decide) w3 (fun _ h9 => h9) rfl dX12_mark_44 ?_
  refine lv_iload_n hx hb dX12_mark_47 rfl (lv_at hl 1 rfl) ?_
  refine lv_bipush (v := 100) hx hb dX12_mark_48 (by decide) ?_
  refine lv_idiv hx hb dX12_mark_50 (by decide) ?_
  refine lv_re e3 ?_
  refine va_iald hx hb hK.1 hP 2 1 rfl rfl (i := x2) (ix (by omega) (by omega)) dX12_mark_51 ?_
  refine lv_topi (fun x27 e28 => ?_)
  refine lv_icmp_ne (tgt := 65) hx hb dX12_mark_52 (by decide) (fun c29 => ?_) (fun c29 => ?_)
  · have c29 := ci_ne c29
    refine lv_iconst (v := (-1)) hx hb dX12_mark_65 (by decide) ?_
    have hpo : (0 ≤ v12_marks.toInt ∧ v12_marks.toInt ≤ 60) ∧ (∀ j : Nat, 0 ≤ (f12_markLine j).toInt ∧ (f12_markLine j).toInt ≤ 19) ∧ (∀ j : Nat, 0 ≤ (f12_markHole j).toInt ∧ (f12_markHole j).toInt ≤ 39) := ⟨i9, hf12_markLine, hf12_markHole⟩
    exact ret _ _ _ _ (-1) (v12_marks, f12_markLine, f12_markHole, f12_isOver) dX12_mark_66 hpo hP hD hS
  have c29 := ci_eq c29
  refine lv_iload_n hx hb dX12_mark_55 rfl (lv_at hl 2 rfl) ?_
  refine lv_i2l hx hb dX12_mark_56 rfl ?_
  refine lv_topl (fun x30 e31 => ?_)
  have h32 : x30.toInt = p2.toInt := cl_i2l e31
  refine lv_lconst (v := (0 : Int64)) hx hb dX12_mark_57 (by decide) ?_
  refine lv_lconst (v := (1 : Int64)) hx hb dX12_mark_58 (by decide) ?_
  refine kcm_i hA hAB hP hD hS [false, false, false, false, false, false] rfl (fun _ => rfl) (fun hPc hDc => va_runS (As := [.long x30, .long (0 : Int64), .long (1 : Int64)]) (rest := []) ⟨hx, hb, hml, hown, hts⟩ (k_X12_within l D κ β H.size x30 (0 : Int64) (1 : Int64)) (va_cwS 3 hts gX12_mark_X12_within rfl rfl rfl (by decide +kernel) ⟨Nat.le_of_ble_eq_true rfl, Nat.le_of_ble_eq_true rfl⟩) (pk_S hK hS hAB hPc hDc) rfl rfl hl.1 rfl (lv_room (Nat.le_of_ble_eq_true rfl)) dX12_mark_59 ⟨Nat.le_of_ble_eq_true rfl, Nat.le_of_ble_eq_true rfl⟩) (fun x33 u34 H locs hw hPD hS => ?_)
  have h35 : (x33.toInt = 1 ∧ (0 : Int64).toInt ≤ x30.toInt ∧ x30.toInt ≤ (1 : Int64).toInt) ∨ (x33.toInt = 0 ∧ (x30.toInt < (0 : Int64).toInt ∨ (1 : Int64).toInt < x30.toInt)) := hw
  obtain ⟨hP, hD⟩ : PD D A [O12 a12 r12 v12_keptMany v12_done v12_sheets v12_holes v12_worms v12_laidMany v12_wanted v12_orderMany v12_firstOrder v12_lines v12_marks v12_dots v12_madeIn v12_bound v12_places v12_maps v12_tapeMany v12_stories v12_base v12_at v12_ends v12_fault v12_opened v12_bodies v12_ran v12_ownKind v12_ownNumber, (cI κ (r12 8) 40 f12_sheetOf), (cI κ (r12 21) 20 f12_lineSheet), (cI κ (r12 24) 60 f12_markLine), (cI κ (r12 25) 60 f12_markHole), (cZ κ (r12 26) 60 f12_isOver)] H := hPD
  refine lv_if_ne (tgt := 67) hx hb dX12_mark_62 (by decide) (fun c36 => ?_) (fun c36 => ?_)
  · have c36 := ci_ne c36
    refine lv_iconst (v := 0) hx hb dX12_mark_67 (by decide) ?_
    refine lv_istore_n (lv' := [(3, .int 0), (0, .ref a12), (1, .int p1), (2, .int p2)]) hx hb dX12_mark_68 rfl hl (by decide) rfl (fun ls hl => ?_)
    have lp69 : ∀ (n69 : Nat) (k37 : Int32), (k37.toInt ≤ v12_marks.toInt) → (0 ≤ k37.toInt) → (v12_marks.toInt - k37.toInt).toNat < n69 → ∀ (H : Heap) (locs : List Loc), va_P D vwCl [O12 a12 r12 v12_keptMany v12_done v12_sheets v12_holes v12_worms v12_laidMany v12_wanted v12_orderMany v12_firstOrder v12_lines v12_marks v12_dots v12_madeIn v12_bound v12_places v12_maps v12_tapeMany v12_stories v12_base v12_at v12_ends v12_fault v12_opened v12_bodies v12_ran v12_ownKind v12_ownNumber, (cI κ (r12 8) 40 f12_sheetOf), (cI κ (r12 21) 20 f12_lineSheet), (cI κ (r12 24) 60 f12_markLine), (cI κ (r12 25) 60 f12_markHole), (cZ κ (r12 26) 60 f12_isOver)] H → va_D A [O12 a12 r12 v12_keptMany v12_done v12_sheets v12_holes v12_worms v12_laidMany v12_wanted v12_orderMany v12_firstOrder v12_lines v12_marks v12_dots v12_madeIn v12_bound v12_places v12_maps v12_tapeMany v12_stories v12_base v12_at v12_ends v12_fault v12_opened v12_bodies v12_ran v12_ownKind v12_ownNumber, (cI κ (r12 8) 40 f12_sheetOf), (cI κ (r12 21) 20 f12_lineSheet), (cI κ (r12 24) 60 f12_markLine), (cI κ (r12 25) 60 f12_markHole), (cZ κ (r12 26) 60 f12_isOver)] → va_S A s.heap H locs → ∀ ls : Array Slot, lv_has ls 4 [(3, .int k37), (0, .ref a12), (1, .int p1), (2, .int p2)] → W p l e ({ frames := 2, cells := 0, slots := 0, locals := 46 } : Room) s m args below meth c H locs 0 0 Q (F0 m 69 ls []) := by
      intro n69
      induction n69 with
      | zero =>
        intro k37 h38 h39 m40
        exact absurd m40 (Nat.not_lt_zero _)
      | succ n69 ih69 =>
        intro k37 h38 h39 m40 H locs hP hD hS ls hl
        refine lv_iload_n hx hb dX12_mark_69 rfl (lv_at hl 0 rfl) ?_
        refine lv_aload_n hx hb dX12_mark_70 rfl (lv_at hl 1 rfl) ?_
        refine va_get (D := D) (ci := 12) (v := .int v12_marks) (C := RX12) (T := TX12) (N := 63) hx hb hts w1 hown hK.1 hP 0 rfl rfl 23 (by decide) w4 (fun _ h9 => h9) rfl dX12_mark_71 ?_
        refine lv_icmp_ge (tgt := 109) hx hb dX12_mark_74 (by decide) (fun c41 => ?_) (fun c41 => ?_)
        · have c41 := ci_le c41
          refine lv_iload_n hx hb dX12_mark_109 rfl (lv_at hl 0 rfl) ?_
          refine lv_bipush (v := 60) hx hb dX12_mark_110 (by decide) ?_
          refine lv_icmp_ne (tgt := 118) hx hb dX12_mark_112 (by decide) (fun c42 => ?_) (fun c42 => ?_)
          · have c42 := ci_ne c42
            refine lv_aload_n hx hb dX12_mark_118 rfl (lv_at hl 1 rfl) ?_
            refine va_get (D := D) (ci := 12) (v := .ref (r12 24)) (C := RX12) (T := TX12) (N := 63) hx hb hts w1 hown hK.1 hP 0 rfl rfl 24 (by decide) w5 (fun _ h9 => h9) rfl dX12_mark_119 ?_
            refine lv_iload_n hx hb dX12_mark_122 rfl (lv_at hl 0 rfl) ?_
            refine lv_iload_n hx hb dX12_mark_123 rfl (lv_at hl 2 rfl) ?_
            refine lv_bipush (v := 100) hx hb dX12_mark_124 (by decide) ?_
            refine lv_idiv hx hb dX12_mark_126 (by decide) ?_
            refine lv_re e3 ?_
            refine va_iast hx hb hK.1 hP hD hS 3 1 rfl rfl (i := k37) (ix (by omega) (by omega)) dX12_mark_127 (fun H locs hP hD hS => ?_)
            obtain ⟨g43, e44⟩ : ∃ y : Nat → Int32, y = upd f12_markLine k37.toNatClampNeg x2 := ⟨_, rfl⟩
            rw [← e44] at hP hD
            obtain ⟨hP, hD⟩ : PD D A [O12 a12 r12 v12_keptMany v12_done v12_sheets v12_holes v12_worms v12_laidMany v12_wanted v12_orderMany v12_firstOrder v12_lines v12_marks v12_dots v12_madeIn v12_bound v12_places v12_maps v12_tapeMany v12_stories v12_base v12_at v12_ends v12_fault v12_opened v12_bodies v12_ran v12_ownKind v12_ownNumber, (cI κ (r12 8) 40 f12_sheetOf), (cI κ (r12 21) 20 f12_lineSheet), (cI κ (r12 24) 60 g43), (cI κ (r12 25) 60 f12_markHole), (cZ κ (r12 26) 60 f12_isOver)] H := ⟨hP, hD⟩
            have h45 : ∀ j : Nat, 0 ≤ (g43 j).toInt ∧ (g43 j).toInt ≤ 19 := by rw [e44]; exact all_upd (P := fun z => 0 ≤ z.toInt ∧ z.toInt ≤ 19) hf12_markLine (by omega)
            refine lv_aload_n hx hb dX12_mark_128 rfl (lv_at hl 1 rfl) ?_
            refine va_get (D := D) (ci := 12) (v := .ref (r12 25)) (C := RX12) (T := TX12) (N := 63) hx hb hts w1 hown hK.1 hP 0 rfl rfl 25 (by decide) w6 (fun _ h9 => h9) rfl dX12_mark_129 ?_
            refine lv_iload_n hx hb dX12_mark_132 rfl (lv_at hl 0 rfl) ?_
            refine lv_iload_n hx hb dX12_mark_133 rfl (lv_at hl 2 rfl) ?_
            refine lv_bipush (v := 100) hx hb dX12_mark_134 (by decide) ?_
            refine lv_irem hx hb dX12_mark_136 (by decide) ?_
            refine lv_re e19 ?_
            refine va_iast hx hb hK.1 hP hD hS 4 1 rfl rfl (i := k37) (ix (by omega) (by omega)) dX12_mark_137 (fun H locs hP hD hS => ?_)
            obtain ⟨g46, e47⟩ : ∃ y : Nat → Int32, y = upd f12_markHole k37.toNatClampNeg x18 := ⟨_, rfl⟩
            rw [← e47] at hP hD
            obtain ⟨hP, hD⟩ : PD D A [O12 a12 r12 v12_keptMany v12_done v12_sheets v12_holes v12_worms v12_laidMany v12_wanted v12_orderMany v12_firstOrder v12_lines v12_marks v12_dots v12_madeIn v12_bound v12_places v12_maps v12_tapeMany v12_stories v12_base v12_at v12_ends v12_fault v12_opened v12_bodies v12_ran v12_ownKind v12_ownNumber, (cI κ (r12 8) 40 f12_sheetOf), (cI κ (r12 21) 20 f12_lineSheet), (cI κ (r12 24) 60 g43), (cI κ (r12 25) 60 g46), (cZ κ (r12 26) 60 f12_isOver)] H := ⟨hP, hD⟩
            have h48 : ∀ j : Nat, 0 ≤ (g46 j).toInt ∧ (g46 j).toInt ≤ 39 := by rw [e47]; exact all_upd (P := fun z => 0 ≤ z.toInt ∧ z.toInt ≤ 39) hf12_markHole (by omega)
            refine lv_aload_n hx hb dX12_mark_138 rfl (lv_at hl 1 rfl) ?_
            refine va_get (D := D) (ci := 12) (v := .ref (r12 26)) (C := RX12) (T := TX12) (N := 63) hx hb hts w1 hown hK.1 hP 0 rfl rfl 26 (by decide) w7 (fun _ h9 => h9) rfl dX12_mark_139 ?_
            refine lv_iload_n hx hb dX12_mark_142 rfl (lv_at hl 0 rfl) ?_
            refine lv_iload_n hx hb dX12_mark_143 rfl (lv_at hl 3 rfl) ?_
            refine lv_iconst (v := 1) hx hb dX12_mark_144 (by decide) ?_
            refine lv_icmp_ne (tgt := 152) hx hb dX12_mark_145 (by decide) (fun c49 => ?_) (fun c49 => ?_)
            · have c49 := ci_ne c49
              refine lv_iconst (v := 0) hx hb dX12_mark_152 (by decide) ?_
              refine va_zast hx hb hK.1 hP hD hS 5 3 rfl rfl (i := k37) (ix (by omega) (by omega)) dX12_mark_153 (fun H locs hP hD hS => ?_)
              obtain ⟨g50, e51⟩ : ∃ y : Nat → Int32, y = upd f12_isOver k37.toNatClampNeg (vp_nar .boolean 0) := ⟨_, rfl⟩
              rw [← e51] at hP hD
              obtain ⟨hP, hD⟩ : PD D A [O12 a12 r12 v12_keptMany v12_done v12_sheets v12_holes v12_worms v12_laidMany v12_wanted v12_orderMany v12_firstOrder v12_lines v12_marks v12_dots v12_madeIn v12_bound v12_places v12_maps v12_tapeMany v12_stories v12_base v12_at v12_ends v12_fault v12_opened v12_bodies v12_ran v12_ownKind v12_ownNumber, (cI κ (r12 8) 40 f12_sheetOf), (cI κ (r12 21) 20 f12_lineSheet), (cI κ (r12 24) 60 g43), (cI κ (r12 25) 60 g46), (cZ κ (r12 26) 60 g50)] H := ⟨hP, hD⟩
              refine lv_aload_n hx hb dX12_mark_154 rfl (lv_at hl 1 rfl) ?_
              refine lv_iload_n hx hb dX12_mark_155 rfl (lv_at hl 0 rfl) ?_
              refine lv_aload_n hx hb dX12_mark_156 rfl (lv_at hl 1 rfl) ?_
              refine va_get (D := D) (ci := 12) (v := .int v12_marks) (C := RX12) (T := TX12) (N := 63) hx hb hts w1 hown hK.1 hP 0 rfl rfl 23 (by decide) w4 (fun _ h9 => h9) rfl dX12_mark_157 ?_
              refine lv_icmp_ne (tgt := 172) hx hb dX12_mark_160 (by decide) (fun c52 => ?_) (fun c52 => ?_)
              · have c52 := ci_ne c52
                refine lv_aload_n hx hb dX12_mark_172 rfl (lv_at hl 1 rfl) ?_
                refine va_get (D := D) (ci := 12) (v := .int v12_marks) (C := RX12) (T := TX12) (N := 63) hx hb hts w1 hown hK.1 hP 0 rfl rfl 23 (by decide) w4 (fun _ h9 => h9) rfl dX12_mark_173 ?_
                refine va_put (D := D) (ci := 12) (v := .int v12_marks) (ty := .int) (C := RX12) (T := TX12) (N := 63) hx hb hts w1 tyX12 tyX12_ok nmX12 hown hK.1 hP hD hS 0 rfl rfl 23 (by decide) w4 (fun _ h9 => h9) rfl (by decide +kernel) rfl rfl (Nat.le_of_ble_eq_true rfl) dX12_mark_176 (fun H locs hP hD hS => ?_)
                obtain ⟨hP, hD⟩ : PD D A [O12 a12 r12 v12_keptMany v12_done v12_sheets v12_holes v12_worms v12_laidMany v12_wanted v12_orderMany v12_firstOrder v12_lines v12_marks v12_dots v12_madeIn v12_bound v12_places v12_maps v12_tapeMany v12_stories v12_base v12_at v12_ends v12_fault v12_opened v12_bodies v12_ran v12_ownKind v12_ownNumber, (cI κ (r12 8) 40 f12_sheetOf), (cI κ (r12 21) 20 f12_lineSheet), (cI κ (r12 24) 60 g43), (cI κ (r12 25) 60 g46), (cZ κ (r12 26) 60 g50)] H := ⟨hP, hD⟩
                refine lv_aload_n hx hb dX12_mark_179 rfl (lv_at hl 1 rfl) ?_
                refine va_get (D := D) (ci := 12) (v := .int v12_marks) (C := RX12) (T := TX12) (N := 63) hx hb hts w1 hown hK.1 hP 0 rfl rfl 23 (by decide) w4 (fun _ h9 => h9) rfl dX12_mark_180 ?_
                have hpo : (0 ≤ v12_marks.toInt ∧ v12_marks.toInt ≤ 60) ∧ (∀ j : Nat, 0 ≤ (g43 j).toInt ∧ (g43 j).toInt ≤ 19) ∧ (∀ j : Nat, 0 ≤ (g46 j).toInt ∧ (g46 j).toInt ≤ 39) := ⟨i9, h45, h48⟩
                exact ret _ _ _ _ v12_marks (v12_marks, g43, g46, g50) dX12_mark_183 hpo hP hD hS
              have c52 := ci_eq c52
              refine lv_aload_n hx hb dX12_mark_163 rfl (lv_at hl 1 rfl) ?_
              refine va_get (D := D) (ci := 12) (v := .int v12_marks) (C := RX12) (T := TX12) (N := 63) hx hb hts w1 hown hK.1 hP 0 rfl rfl 23 (by decide) w4 (fun _ h9 => h9) rfl dX12_mark_164 ?_
              refine lv_iconst (v := 1) hx hb dX12_mark_167 (by decide) ?_
              refine lv_iadd hx hb dX12_mark_168 ?_
              refine lv_topi (fun x53 e54 => ?_)
              try have h55 : x53.toInt = v12_marks.toInt + (1 : Int32).toInt := ci_add e54 (by omega) (by omega)
              refine lv_goto (tgt := 176) hx hb dX12_mark_169 (by decide) ?_
              refine va_put (D := D) (ci := 12) (v := .int x53) (ty := .int) (C := RX12) (T := TX12) (N := 63) hx hb hts w1 tyX12 tyX12_ok nmX12 hown hK.1 hP hD hS 0 rfl rfl 23 (by decide) w4 (fun _ h9 => h9) rfl (by decide +kernel) rfl rfl (Nat.le_of_ble_eq_true rfl) dX12_mark_176 (fun H locs hP hD hS => ?_)
              obtain ⟨hP, hD⟩ : PD D A [O12 a12 r12 v12_keptMany v12_done v12_sheets v12_holes v12_worms v12_laidMany v12_wanted v12_orderMany v12_firstOrder v12_lines x53 v12_dots v12_madeIn v12_bound v12_places v12_maps v12_tapeMany v12_stories v12_base v12_at v12_ends v12_fault v12_opened v12_bodies v12_ran v12_ownKind v12_ownNumber, (cI κ (r12 8) 40 f12_sheetOf), (cI κ (r12 21) 20 f12_lineSheet), (cI κ (r12 24) 60 g43), (cI κ (r12 25) 60 g46), (cZ κ (r12 26) 60 g50)] H := ⟨hP, hD⟩
              have h56 : 0 ≤ x53.toInt ∧ x53.toInt ≤ 60 := by omega
              refine lv_aload_n hx hb dX12_mark_179 rfl (lv_at hl 1 rfl) ?_
              refine va_get (D := D) (ci := 12) (v := .int x53) (C := RX12) (T := TX12) (N := 63) hx hb hts w1 hown hK.1 hP 0 rfl rfl 23 (by decide) w4 (fun _ h9 => h9) rfl dX12_mark_180 ?_
              have hpo : (0 ≤ x53.toInt ∧ x53.toInt ≤ 60) ∧ (∀ j : Nat, 0 ≤ (g43 j).toInt ∧ (g43 j).toInt ≤ 19) ∧ (∀ j : Nat, 0 ≤ (g46 j).toInt ∧ (g46 j).toInt ≤ 39) := ⟨h56, h45, h48⟩
              exact ret _ _ _ _ x53 (x53, g43, g46, g50) dX12_mark_183 hpo hP hD hS
            have c49 := ci_eq c49
            refine lv_iconst (v := 1) hx hb dX12_mark_148 (by decide) ?_
            refine lv_goto (tgt := 153) hx hb dX12_mark_149 (by decide) ?_
            refine va_zast hx hb hK.1 hP hD hS 5 3 rfl rfl (i := k37) (ix (by omega) (by omega)) dX12_mark_153 (fun H locs hP hD hS => ?_)
            obtain ⟨g57, e58⟩ : ∃ y : Nat → Int32, y = upd f12_isOver k37.toNatClampNeg (vp_nar .boolean 1) := ⟨_, rfl⟩
            rw [← e58] at hP hD
            obtain ⟨hP, hD⟩ : PD D A [O12 a12 r12 v12_keptMany v12_done v12_sheets v12_holes v12_worms v12_laidMany v12_wanted v12_orderMany v12_firstOrder v12_lines v12_marks v12_dots v12_madeIn v12_bound v12_places v12_maps v12_tapeMany v12_stories v12_base v12_at v12_ends v12_fault v12_opened v12_bodies v12_ran v12_ownKind v12_ownNumber, (cI κ (r12 8) 40 f12_sheetOf), (cI κ (r12 21) 20 f12_lineSheet), (cI κ (r12 24) 60 g43), (cI κ (r12 25) 60 g46), (cZ κ (r12 26) 60 g57)] H := ⟨hP, hD⟩
            refine lv_aload_n hx hb dX12_mark_154 rfl (lv_at hl 1 rfl) ?_
            refine lv_iload_n hx hb dX12_mark_155 rfl (lv_at hl 0 rfl) ?_
            refine lv_aload_n hx hb dX12_mark_156 rfl (lv_at hl 1 rfl) ?_
            refine va_get (D := D) (ci := 12) (v := .int v12_marks) (C := RX12) (T := TX12) (N := 63) hx hb hts w1 hown hK.1 hP 0 rfl rfl 23 (by decide) w4 (fun _ h9 => h9) rfl dX12_mark_157 ?_
            refine lv_icmp_ne (tgt := 172) hx hb dX12_mark_160 (by decide) (fun c59 => ?_) (fun c59 => ?_)
            · have c59 := ci_ne c59
              refine lv_aload_n hx hb dX12_mark_172 rfl (lv_at hl 1 rfl) ?_
              refine va_get (D := D) (ci := 12) (v := .int v12_marks) (C := RX12) (T := TX12) (N := 63) hx hb hts w1 hown hK.1 hP 0 rfl rfl 23 (by decide) w4 (fun _ h9 => h9) rfl dX12_mark_173 ?_
              refine va_put (D := D) (ci := 12) (v := .int v12_marks) (ty := .int) (C := RX12) (T := TX12) (N := 63) hx hb hts w1 tyX12 tyX12_ok nmX12 hown hK.1 hP hD hS 0 rfl rfl 23 (by decide) w4 (fun _ h9 => h9) rfl (by decide +kernel) rfl rfl (Nat.le_of_ble_eq_true rfl) dX12_mark_176 (fun H locs hP hD hS => ?_)
              obtain ⟨hP, hD⟩ : PD D A [O12 a12 r12 v12_keptMany v12_done v12_sheets v12_holes v12_worms v12_laidMany v12_wanted v12_orderMany v12_firstOrder v12_lines v12_marks v12_dots v12_madeIn v12_bound v12_places v12_maps v12_tapeMany v12_stories v12_base v12_at v12_ends v12_fault v12_opened v12_bodies v12_ran v12_ownKind v12_ownNumber, (cI κ (r12 8) 40 f12_sheetOf), (cI κ (r12 21) 20 f12_lineSheet), (cI κ (r12 24) 60 g43), (cI κ (r12 25) 60 g46), (cZ κ (r12 26) 60 g57)] H := ⟨hP, hD⟩
              refine lv_aload_n hx hb dX12_mark_179 rfl (lv_at hl 1 rfl) ?_
              refine va_get (D := D) (ci := 12) (v := .int v12_marks) (C := RX12) (T := TX12) (N := 63) hx hb hts w1 hown hK.1 hP 0 rfl rfl 23 (by decide) w4 (fun _ h9 => h9) rfl dX12_mark_180 ?_
              have hpo : (0 ≤ v12_marks.toInt ∧ v12_marks.toInt ≤ 60) ∧ (∀ j : Nat, 0 ≤ (g43 j).toInt ∧ (g43 j).toInt ≤ 19) ∧ (∀ j : Nat, 0 ≤ (g46 j).toInt ∧ (g46 j).toInt ≤ 39) := ⟨i9, h45, h48⟩
              exact ret _ _ _ _ v12_marks (v12_marks, g43, g46, g57) dX12_mark_183 hpo hP hD hS
            have c59 := ci_eq c59
            refine lv_aload_n hx hb dX12_mark_163 rfl (lv_at hl 1 rfl) ?_
            refine va_get (D := D) (ci := 12) (v := .int v12_marks) (C := RX12) (T := TX12) (N := 63) hx hb hts w1 hown hK.1 hP 0 rfl rfl 23 (by decide) w4 (fun _ h9 => h9) rfl dX12_mark_164 ?_
            refine lv_iconst (v := 1) hx hb dX12_mark_167 (by decide) ?_
            refine lv_iadd hx hb dX12_mark_168 ?_
            refine lv_topi (fun x60 e61 => ?_)
            try have h62 : x60.toInt = v12_marks.toInt + (1 : Int32).toInt := ci_add e61 (by omega) (by omega)
            refine lv_goto (tgt := 176) hx hb dX12_mark_169 (by decide) ?_
            refine va_put (D := D) (ci := 12) (v := .int x60) (ty := .int) (C := RX12) (T := TX12) (N := 63) hx hb hts w1 tyX12 tyX12_ok nmX12 hown hK.1 hP hD hS 0 rfl rfl 23 (by decide) w4 (fun _ h9 => h9) rfl (by decide +kernel) rfl rfl (Nat.le_of_ble_eq_true rfl) dX12_mark_176 (fun H locs hP hD hS => ?_)
            obtain ⟨hP, hD⟩ : PD D A [O12 a12 r12 v12_keptMany v12_done v12_sheets v12_holes v12_worms v12_laidMany v12_wanted v12_orderMany v12_firstOrder v12_lines x60 v12_dots v12_madeIn v12_bound v12_places v12_maps v12_tapeMany v12_stories v12_base v12_at v12_ends v12_fault v12_opened v12_bodies v12_ran v12_ownKind v12_ownNumber, (cI κ (r12 8) 40 f12_sheetOf), (cI κ (r12 21) 20 f12_lineSheet), (cI κ (r12 24) 60 g43), (cI κ (r12 25) 60 g46), (cZ κ (r12 26) 60 g57)] H := ⟨hP, hD⟩
            have h63 : 0 ≤ x60.toInt ∧ x60.toInt ≤ 60 := by omega
            refine lv_aload_n hx hb dX12_mark_179 rfl (lv_at hl 1 rfl) ?_
            refine va_get (D := D) (ci := 12) (v := .int x60) (C := RX12) (T := TX12) (N := 63) hx hb hts w1 hown hK.1 hP 0 rfl rfl 23 (by decide) w4 (fun _ h9 => h9) rfl dX12_mark_180 ?_
            have hpo : (0 ≤ x60.toInt ∧ x60.toInt ≤ 60) ∧ (∀ j : Nat, 0 ≤ (g43 j).toInt ∧ (g43 j).toInt ≤ 19) ∧ (∀ j : Nat, 0 ≤ (g46 j).toInt ∧ (g46 j).toInt ≤ 39) := ⟨h63, h45, h48⟩
            exact ret _ _ _ _ x60 (x60, g43, g46, g57) dX12_mark_183 hpo hP hD hS
          have c42 := ci_eq c42
          refine lv_bipush (v := (-3)) hx hb dX12_mark_115 (by decide) ?_
          have hpo : (0 ≤ v12_marks.toInt ∧ v12_marks.toInt ≤ 60) ∧ (∀ j : Nat, 0 ≤ (f12_markLine j).toInt ∧ (f12_markLine j).toInt ≤ 19) ∧ (∀ j : Nat, 0 ≤ (f12_markHole j).toInt ∧ (f12_markHole j).toInt ≤ 39) := ⟨i9, hf12_markLine, hf12_markHole⟩
          exact ret _ _ _ _ (-3) (v12_marks, f12_markLine, f12_markHole, f12_isOver) dX12_mark_117 hpo hP hD hS
        have c41 := ci_nle c41
        refine lv_aload_n hx hb dX12_mark_77 rfl (lv_at hl 1 rfl) ?_
        refine va_get (D := D) (ci := 12) (v := .ref (r12 24)) (C := RX12) (T := TX12) (N := 63) hx hb hts w1 hown hK.1 hP 0 rfl rfl 24 (by decide) w5 (fun _ h9 => h9) rfl dX12_mark_78 ?_
        refine lv_iload_n hx hb dX12_mark_81 rfl (lv_at hl 0 rfl) ?_
        refine va_iald hx hb hK.1 hP 3 1 rfl rfl (i := k37) (ix (by omega) (by omega)) dX12_mark_82 ?_
        refine lv_topi (fun x64 e65 => ?_)
        have h66 : 0 ≤ x64.toInt ∧ x64.toInt ≤ 19 := by rw [e65]; exact hf12_markLine _
        refine lv_iload_n hx hb dX12_mark_83 rfl (lv_at hl 2 rfl) ?_
        refine lv_bipush (v := 100) hx hb dX12_mark_84 (by decide) ?_
        refine lv_idiv hx hb dX12_mark_86 (by decide) ?_
        refine lv_re e3 ?_
        refine lv_icmp_ne (tgt := 103) hx hb dX12_mark_87 (by decide) (fun c67 => ?_) (fun c67 => ?_)
        · have c67 := ci_ne c67
          obtain ⟨x68, e69⟩ : ∃ y : Int32, y = k37 + 1 := ⟨_, rfl⟩
          refine lv_iinc (v := x68) (lv' := [(3, .int x68), (0, .ref a12), (1, .int p1), (2, .int p2)]) hx hb dX12_mark_103 hl (k := 0) rfl (by rw [e69]; rfl) (by decide) rfl (fun ls hl => ?_)
          try have h70 : x68.toInt = k37.toInt + (1 : Int32).toInt := ci_add e69 (by omega) (by omega)
          refine lv_goto (tgt := 69) hx hb dX12_mark_106 (by decide) ?_
          exact ih69 x68 (by omega) (by omega) (by omega) _ _ hP hD hS _ hl
        have c67 := ci_eq c67
        refine lv_aload_n hx hb dX12_mark_90 rfl (lv_at hl 1 rfl) ?_
        refine va_get (D := D) (ci := 12) (v := .ref (r12 25)) (C := RX12) (T := TX12) (N := 63) hx hb hts w1 hown hK.1 hP 0 rfl rfl 25 (by decide) w6 (fun _ h9 => h9) rfl dX12_mark_91 ?_
        refine lv_iload_n hx hb dX12_mark_94 rfl (lv_at hl 0 rfl) ?_
        refine va_iald hx hb hK.1 hP 4 1 rfl rfl (i := k37) (ix (by omega) (by omega)) dX12_mark_95 ?_
        refine lv_topi (fun x71 e72 => ?_)
        have h73 : 0 ≤ x71.toInt ∧ x71.toInt ≤ 39 := by rw [e72]; exact hf12_markHole _
        refine lv_iload_n hx hb dX12_mark_96 rfl (lv_at hl 2 rfl) ?_
        refine lv_bipush (v := 100) hx hb dX12_mark_97 (by decide) ?_
        refine lv_irem hx hb dX12_mark_99 (by decide) ?_
        refine lv_re e19 ?_
        refine lv_icmp_eq (tgt := 109) hx hb dX12_mark_100 (by decide) (fun c74 => ?_) (fun c74 => ?_)
        · have c74 := ci_eq c74
          refine lv_iload_n hx hb dX12_mark_109 rfl (lv_at hl 0 rfl) ?_
          refine lv_bipush (v := 60) hx hb dX12_mark_110 (by decide) ?_
          refine lv_icmp_ne (tgt := 118) hx hb dX12_mark_112 (by decide) (fun c75 => ?_) (fun c75 => ?_)
          · have c75 := ci_ne c75
            refine lv_aload_n hx hb dX12_mark_118 rfl (lv_at hl 1 rfl) ?_
            refine va_get (D := D) (ci := 12) (v := .ref (r12 24)) (C := RX12) (T := TX12) (N := 63) hx hb hts w1 hown hK.1 hP 0 rfl rfl 24 (by decide) w5 (fun _ h9 => h9) rfl dX12_mark_119 ?_
            refine lv_iload_n hx hb dX12_mark_122 rfl (lv_at hl 0 rfl) ?_
            refine lv_iload_n hx hb dX12_mark_123 rfl (lv_at hl 2 rfl) ?_
            refine lv_bipush (v := 100) hx hb dX12_mark_124 (by decide) ?_
            refine lv_idiv hx hb dX12_mark_126 (by decide) ?_
            refine lv_re e3 ?_
            refine va_iast hx hb hK.1 hP hD hS 3 1 rfl rfl (i := k37) (ix (by omega) (by omega)) dX12_mark_127 (fun H locs hP hD hS => ?_)
            obtain ⟨g76, e77⟩ : ∃ y : Nat → Int32, y = upd f12_markLine k37.toNatClampNeg x2 := ⟨_, rfl⟩
            rw [← e77] at hP hD
            obtain ⟨hP, hD⟩ : PD D A [O12 a12 r12 v12_keptMany v12_done v12_sheets v12_holes v12_worms v12_laidMany v12_wanted v12_orderMany v12_firstOrder v12_lines v12_marks v12_dots v12_madeIn v12_bound v12_places v12_maps v12_tapeMany v12_stories v12_base v12_at v12_ends v12_fault v12_opened v12_bodies v12_ran v12_ownKind v12_ownNumber, (cI κ (r12 8) 40 f12_sheetOf), (cI κ (r12 21) 20 f12_lineSheet), (cI κ (r12 24) 60 g76), (cI κ (r12 25) 60 f12_markHole), (cZ κ (r12 26) 60 f12_isOver)] H := ⟨hP, hD⟩
            have h78 : ∀ j : Nat, 0 ≤ (g76 j).toInt ∧ (g76 j).toInt ≤ 19 := by rw [e77]; exact all_upd (P := fun z => 0 ≤ z.toInt ∧ z.toInt ≤ 19) hf12_markLine (by omega)
            refine lv_aload_n hx hb dX12_mark_128 rfl (lv_at hl 1 rfl) ?_
            refine va_get (D := D) (ci := 12) (v := .ref (r12 25)) (C := RX12) (T := TX12) (N := 63) hx hb hts w1 hown hK.1 hP 0 rfl rfl 25 (by decide) w6 (fun _ h9 => h9) rfl dX12_mark_129 ?_
            refine lv_iload_n hx hb dX12_mark_132 rfl (lv_at hl 0 rfl) ?_
            refine lv_iload_n hx hb dX12_mark_133 rfl (lv_at hl 2 rfl) ?_
            refine lv_bipush (v := 100) hx hb dX12_mark_134 (by decide) ?_
            refine lv_irem hx hb dX12_mark_136 (by decide) ?_
            refine lv_re e19 ?_
            refine va_iast hx hb hK.1 hP hD hS 4 1 rfl rfl (i := k37) (ix (by omega) (by omega)) dX12_mark_137 (fun H locs hP hD hS => ?_)
            obtain ⟨g79, e80⟩ : ∃ y : Nat → Int32, y = upd f12_markHole k37.toNatClampNeg x18 := ⟨_, rfl⟩
            rw [← e80] at hP hD
            obtain ⟨hP, hD⟩ : PD D A [O12 a12 r12 v12_keptMany v12_done v12_sheets v12_holes v12_worms v12_laidMany v12_wanted v12_orderMany v12_firstOrder v12_lines v12_marks v12_dots v12_madeIn v12_bound v12_places v12_maps v12_tapeMany v12_stories v12_base v12_at v12_ends v12_fault v12_opened v12_bodies v12_ran v12_ownKind v12_ownNumber, (cI κ (r12 8) 40 f12_sheetOf), (cI κ (r12 21) 20 f12_lineSheet), (cI κ (r12 24) 60 g76), (cI κ (r12 25) 60 g79), (cZ κ (r12 26) 60 f12_isOver)] H := ⟨hP, hD⟩
            have h81 : ∀ j : Nat, 0 ≤ (g79 j).toInt ∧ (g79 j).toInt ≤ 39 := by rw [e80]; exact all_upd (P := fun z => 0 ≤ z.toInt ∧ z.toInt ≤ 39) hf12_markHole (by omega)
            refine lv_aload_n hx hb dX12_mark_138 rfl (lv_at hl 1 rfl) ?_
            refine va_get (D := D) (ci := 12) (v := .ref (r12 26)) (C := RX12) (T := TX12) (N := 63) hx hb hts w1 hown hK.1 hP 0 rfl rfl 26 (by decide) w7 (fun _ h9 => h9) rfl dX12_mark_139 ?_
            refine lv_iload_n hx hb dX12_mark_142 rfl (lv_at hl 0 rfl) ?_
            refine lv_iload_n hx hb dX12_mark_143 rfl (lv_at hl 3 rfl) ?_
            refine lv_iconst (v := 1) hx hb dX12_mark_144 (by decide) ?_
            refine lv_icmp_ne (tgt := 152) hx hb dX12_mark_145 (by decide) (fun c82 => ?_) (fun c82 => ?_)
            · have c82 := ci_ne c82
              refine lv_iconst (v := 0) hx hb dX12_mark_152 (by decide) ?_
              refine va_zast hx hb hK.1 hP hD hS 5 3 rfl rfl (i := k37) (ix (by omega) (by omega)) dX12_mark_153 (fun H locs hP hD hS => ?_)
              obtain ⟨g83, e84⟩ : ∃ y : Nat → Int32, y = upd f12_isOver k37.toNatClampNeg (vp_nar .boolean 0) := ⟨_, rfl⟩
              rw [← e84] at hP hD
              obtain ⟨hP, hD⟩ : PD D A [O12 a12 r12 v12_keptMany v12_done v12_sheets v12_holes v12_worms v12_laidMany v12_wanted v12_orderMany v12_firstOrder v12_lines v12_marks v12_dots v12_madeIn v12_bound v12_places v12_maps v12_tapeMany v12_stories v12_base v12_at v12_ends v12_fault v12_opened v12_bodies v12_ran v12_ownKind v12_ownNumber, (cI κ (r12 8) 40 f12_sheetOf), (cI κ (r12 21) 20 f12_lineSheet), (cI κ (r12 24) 60 g76), (cI κ (r12 25) 60 g79), (cZ κ (r12 26) 60 g83)] H := ⟨hP, hD⟩
              refine lv_aload_n hx hb dX12_mark_154 rfl (lv_at hl 1 rfl) ?_
              refine lv_iload_n hx hb dX12_mark_155 rfl (lv_at hl 0 rfl) ?_
              refine lv_aload_n hx hb dX12_mark_156 rfl (lv_at hl 1 rfl) ?_
              refine va_get (D := D) (ci := 12) (v := .int v12_marks) (C := RX12) (T := TX12) (N := 63) hx hb hts w1 hown hK.1 hP 0 rfl rfl 23 (by decide) w4 (fun _ h9 => h9) rfl dX12_mark_157 ?_
              refine lv_icmp_ne (tgt := 172) hx hb dX12_mark_160 (by decide) (fun c85 => ?_) (fun c85 => ?_)
              · have c85 := ci_ne c85
                refine lv_aload_n hx hb dX12_mark_172 rfl (lv_at hl 1 rfl) ?_
                refine va_get (D := D) (ci := 12) (v := .int v12_marks) (C := RX12) (T := TX12) (N := 63) hx hb hts w1 hown hK.1 hP 0 rfl rfl 23 (by decide) w4 (fun _ h9 => h9) rfl dX12_mark_173 ?_
                refine va_put (D := D) (ci := 12) (v := .int v12_marks) (ty := .int) (C := RX12) (T := TX12) (N := 63) hx hb hts w1 tyX12 tyX12_ok nmX12 hown hK.1 hP hD hS 0 rfl rfl 23 (by decide) w4 (fun _ h9 => h9) rfl (by decide +kernel) rfl rfl (Nat.le_of_ble_eq_true rfl) dX12_mark_176 (fun H locs hP hD hS => ?_)
                obtain ⟨hP, hD⟩ : PD D A [O12 a12 r12 v12_keptMany v12_done v12_sheets v12_holes v12_worms v12_laidMany v12_wanted v12_orderMany v12_firstOrder v12_lines v12_marks v12_dots v12_madeIn v12_bound v12_places v12_maps v12_tapeMany v12_stories v12_base v12_at v12_ends v12_fault v12_opened v12_bodies v12_ran v12_ownKind v12_ownNumber, (cI κ (r12 8) 40 f12_sheetOf), (cI κ (r12 21) 20 f12_lineSheet), (cI κ (r12 24) 60 g76), (cI κ (r12 25) 60 g79), (cZ κ (r12 26) 60 g83)] H := ⟨hP, hD⟩
                refine lv_aload_n hx hb dX12_mark_179 rfl (lv_at hl 1 rfl) ?_
                refine va_get (D := D) (ci := 12) (v := .int v12_marks) (C := RX12) (T := TX12) (N := 63) hx hb hts w1 hown hK.1 hP 0 rfl rfl 23 (by decide) w4 (fun _ h9 => h9) rfl dX12_mark_180 ?_
                have hpo : (0 ≤ v12_marks.toInt ∧ v12_marks.toInt ≤ 60) ∧ (∀ j : Nat, 0 ≤ (g76 j).toInt ∧ (g76 j).toInt ≤ 19) ∧ (∀ j : Nat, 0 ≤ (g79 j).toInt ∧ (g79 j).toInt ≤ 39) := ⟨i9, h78, h81⟩
                exact ret _ _ _ _ v12_marks (v12_marks, g76, g79, g83) dX12_mark_183 hpo hP hD hS
              have c85 := ci_eq c85
              refine lv_aload_n hx hb dX12_mark_163 rfl (lv_at hl 1 rfl) ?_
              refine va_get (D := D) (ci := 12) (v := .int v12_marks) (C := RX12) (T := TX12) (N := 63) hx hb hts w1 hown hK.1 hP 0 rfl rfl 23 (by decide) w4 (fun _ h9 => h9) rfl dX12_mark_164 ?_
              refine lv_iconst (v := 1) hx hb dX12_mark_167 (by decide) ?_
              refine lv_iadd hx hb dX12_mark_168 ?_
              refine lv_topi (fun x86 e87 => ?_)
              try have h88 : x86.toInt = v12_marks.toInt + (1 : Int32).toInt := ci_add e87 (by omega) (by omega)
              refine lv_goto (tgt := 176) hx hb dX12_mark_169 (by decide) ?_
              refine va_put (D := D) (ci := 12) (v := .int x86) (ty := .int) (C := RX12) (T := TX12) (N := 63) hx hb hts w1 tyX12 tyX12_ok nmX12 hown hK.1 hP hD hS 0 rfl rfl 23 (by decide) w4 (fun _ h9 => h9) rfl (by decide +kernel) rfl rfl (Nat.le_of_ble_eq_true rfl) dX12_mark_176 (fun H locs hP hD hS => ?_)
              obtain ⟨hP, hD⟩ : PD D A [O12 a12 r12 v12_keptMany v12_done v12_sheets v12_holes v12_worms v12_laidMany v12_wanted v12_orderMany v12_firstOrder v12_lines x86 v12_dots v12_madeIn v12_bound v12_places v12_maps v12_tapeMany v12_stories v12_base v12_at v12_ends v12_fault v12_opened v12_bodies v12_ran v12_ownKind v12_ownNumber, (cI κ (r12 8) 40 f12_sheetOf), (cI κ (r12 21) 20 f12_lineSheet), (cI κ (r12 24) 60 g76), (cI κ (r12 25) 60 g79), (cZ κ (r12 26) 60 g83)] H := ⟨hP, hD⟩
              have h89 : 0 ≤ x86.toInt ∧ x86.toInt ≤ 60 := by omega
              refine lv_aload_n hx hb dX12_mark_179 rfl (lv_at hl 1 rfl) ?_
              refine va_get (D := D) (ci := 12) (v := .int x86) (C := RX12) (T := TX12) (N := 63) hx hb hts w1 hown hK.1 hP 0 rfl rfl 23 (by decide) w4 (fun _ h9 => h9) rfl dX12_mark_180 ?_
              have hpo : (0 ≤ x86.toInt ∧ x86.toInt ≤ 60) ∧ (∀ j : Nat, 0 ≤ (g76 j).toInt ∧ (g76 j).toInt ≤ 19) ∧ (∀ j : Nat, 0 ≤ (g79 j).toInt ∧ (g79 j).toInt ≤ 39) := ⟨h89, h78, h81⟩
              exact ret _ _ _ _ x86 (x86, g76, g79, g83) dX12_mark_183 hpo hP hD hS
            have c82 := ci_eq c82
            refine lv_iconst (v := 1) hx hb dX12_mark_148 (by decide) ?_
            refine lv_goto (tgt := 153) hx hb dX12_mark_149 (by decide) ?_
            refine va_zast hx hb hK.1 hP hD hS 5 3 rfl rfl (i := k37) (ix (by omega) (by omega)) dX12_mark_153 (fun H locs hP hD hS => ?_)
            obtain ⟨g90, e91⟩ : ∃ y : Nat → Int32, y = upd f12_isOver k37.toNatClampNeg (vp_nar .boolean 1) := ⟨_, rfl⟩
            rw [← e91] at hP hD
            obtain ⟨hP, hD⟩ : PD D A [O12 a12 r12 v12_keptMany v12_done v12_sheets v12_holes v12_worms v12_laidMany v12_wanted v12_orderMany v12_firstOrder v12_lines v12_marks v12_dots v12_madeIn v12_bound v12_places v12_maps v12_tapeMany v12_stories v12_base v12_at v12_ends v12_fault v12_opened v12_bodies v12_ran v12_ownKind v12_ownNumber, (cI κ (r12 8) 40 f12_sheetOf), (cI κ (r12 21) 20 f12_lineSheet), (cI κ (r12 24) 60 g76), (cI κ (r12 25) 60 g79), (cZ κ (r12 26) 60 g90)] H := ⟨hP, hD⟩
            refine lv_aload_n hx hb dX12_mark_154 rfl (lv_at hl 1 rfl) ?_
            refine lv_iload_n hx hb dX12_mark_155 rfl (lv_at hl 0 rfl) ?_
            refine lv_aload_n hx hb dX12_mark_156 rfl (lv_at hl 1 rfl) ?_
            refine va_get (D := D) (ci := 12) (v := .int v12_marks) (C := RX12) (T := TX12) (N := 63) hx hb hts w1 hown hK.1 hP 0 rfl rfl 23 (by decide) w4 (fun _ h9 => h9) rfl dX12_mark_157 ?_
            refine lv_icmp_ne (tgt := 172) hx hb dX12_mark_160 (by decide) (fun c92 => ?_) (fun c92 => ?_)
            · have c92 := ci_ne c92
              refine lv_aload_n hx hb dX12_mark_172 rfl (lv_at hl 1 rfl) ?_
              refine va_get (D := D) (ci := 12) (v := .int v12_marks) (C := RX12) (T := TX12) (N := 63) hx hb hts w1 hown hK.1 hP 0 rfl rfl 23 (by decide) w4 (fun _ h9 => h9) rfl dX12_mark_173 ?_
              refine va_put (D := D) (ci := 12) (v := .int v12_marks) (ty := .int) (C := RX12) (T := TX12) (N := 63) hx hb hts w1 tyX12 tyX12_ok nmX12 hown hK.1 hP hD hS 0 rfl rfl 23 (by decide) w4 (fun _ h9 => h9) rfl (by decide +kernel) rfl rfl (Nat.le_of_ble_eq_true rfl) dX12_mark_176 (fun H locs hP hD hS => ?_)
              obtain ⟨hP, hD⟩ : PD D A [O12 a12 r12 v12_keptMany v12_done v12_sheets v12_holes v12_worms v12_laidMany v12_wanted v12_orderMany v12_firstOrder v12_lines v12_marks v12_dots v12_madeIn v12_bound v12_places v12_maps v12_tapeMany v12_stories v12_base v12_at v12_ends v12_fault v12_opened v12_bodies v12_ran v12_ownKind v12_ownNumber, (cI κ (r12 8) 40 f12_sheetOf), (cI κ (r12 21) 20 f12_lineSheet), (cI κ (r12 24) 60 g76), (cI κ (r12 25) 60 g79), (cZ κ (r12 26) 60 g90)] H := ⟨hP, hD⟩
              refine lv_aload_n hx hb dX12_mark_179 rfl (lv_at hl 1 rfl) ?_
              refine va_get (D := D) (ci := 12) (v := .int v12_marks) (C := RX12) (T := TX12) (N := 63) hx hb hts w1 hown hK.1 hP 0 rfl rfl 23 (by decide) w4 (fun _ h9 => h9) rfl dX12_mark_180 ?_
              have hpo : (0 ≤ v12_marks.toInt ∧ v12_marks.toInt ≤ 60) ∧ (∀ j : Nat, 0 ≤ (g76 j).toInt ∧ (g76 j).toInt ≤ 19) ∧ (∀ j : Nat, 0 ≤ (g79 j).toInt ∧ (g79 j).toInt ≤ 39) := ⟨i9, h78, h81⟩
              exact ret _ _ _ _ v12_marks (v12_marks, g76, g79, g90) dX12_mark_183 hpo hP hD hS
            have c92 := ci_eq c92
            refine lv_aload_n hx hb dX12_mark_163 rfl (lv_at hl 1 rfl) ?_
            refine va_get (D := D) (ci := 12) (v := .int v12_marks) (C := RX12) (T := TX12) (N := 63) hx hb hts w1 hown hK.1 hP 0 rfl rfl 23 (by decide) w4 (fun _ h9 => h9) rfl dX12_mark_164 ?_
            refine lv_iconst (v := 1) hx hb dX12_mark_167 (by decide) ?_
            refine lv_iadd hx hb dX12_mark_168 ?_
            refine lv_topi (fun x93 e94 => ?_)
            try have h95 : x93.toInt = v12_marks.toInt + (1 : Int32).toInt := ci_add e94 (by omega) (by omega)
            refine lv_goto (tgt := 176) hx hb dX12_mark_169 (by decide) ?_
            refine va_put (D := D) (ci := 12) (v := .int x93) (ty := .int) (C := RX12) (T := TX12) (N := 63) hx hb hts w1 tyX12 tyX12_ok nmX12 hown hK.1 hP hD hS 0 rfl rfl 23 (by decide) w4 (fun _ h9 => h9) rfl (by decide +kernel) rfl rfl (Nat.le_of_ble_eq_true rfl) dX12_mark_176 (fun H locs hP hD hS => ?_)
            obtain ⟨hP, hD⟩ : PD D A [O12 a12 r12 v12_keptMany v12_done v12_sheets v12_holes v12_worms v12_laidMany v12_wanted v12_orderMany v12_firstOrder v12_lines x93 v12_dots v12_madeIn v12_bound v12_places v12_maps v12_tapeMany v12_stories v12_base v12_at v12_ends v12_fault v12_opened v12_bodies v12_ran v12_ownKind v12_ownNumber, (cI κ (r12 8) 40 f12_sheetOf), (cI κ (r12 21) 20 f12_lineSheet), (cI κ (r12 24) 60 g76), (cI κ (r12 25) 60 g79), (cZ κ (r12 26) 60 g90)] H := ⟨hP, hD⟩
            have h96 : 0 ≤ x93.toInt ∧ x93.toInt ≤ 60 := by omega
            refine lv_aload_n hx hb dX12_mark_179 rfl (lv_at hl 1 rfl) ?_
            refine va_get (D := D) (ci := 12) (v := .int x93) (C := RX12) (T := TX12) (N := 63) hx hb hts w1 hown hK.1 hP 0 rfl rfl 23 (by decide) w4 (fun _ h9 => h9) rfl dX12_mark_180 ?_
            have hpo : (0 ≤ x93.toInt ∧ x93.toInt ≤ 60) ∧ (∀ j : Nat, 0 ≤ (g76 j).toInt ∧ (g76 j).toInt ≤ 19) ∧ (∀ j : Nat, 0 ≤ (g79 j).toInt ∧ (g79 j).toInt ≤ 39) := ⟨h96, h78, h81⟩
            exact ret _ _ _ _ x93 (x93, g76, g79, g90) dX12_mark_183 hpo hP hD hS
          have c75 := ci_eq c75
          refine lv_bipush (v := (-3)) hx hb dX12_mark_115 (by decide) ?_
          have hpo : (0 ≤ v12_marks.toInt ∧ v12_marks.toInt ≤ 60) ∧ (∀ j : Nat, 0 ≤ (f12_markLine j).toInt ∧ (f12_markLine j).toInt ≤ 19) ∧ (∀ j : Nat, 0 ≤ (f12_markHole j).toInt ∧ (f12_markHole j).toInt ≤ 39) := ⟨i9, hf12_markLine, hf12_markHole⟩
          exact ret _ _ _ _ (-3) (v12_marks, f12_markLine, f12_markHole, f12_isOver) dX12_mark_117 hpo hP hD hS
        have c74 := ci_ne c74
        obtain ⟨x97, e98⟩ : ∃ y : Int32, y = k37 + 1 := ⟨_, rfl⟩
        refine lv_iinc (v := x97) (lv' := [(3, .int x97), (0, .ref a12), (1, .int p1), (2, .int p2)]) hx hb dX12_mark_103 hl (k := 0) rfl (by rw [e98]; rfl) (by decide) rfl (fun ls hl => ?_)
        try have h99 : x97.toInt = k37.toInt + (1 : Int32).toInt := ci_add e98 (by omega) (by omega)
        refine lv_goto (tgt := 69) hx hb dX12_mark_106 (by decide) ?_
        exact ih69 x97 (by omega) (by omega) (by omega) _ _ hP hD hS _ hl
    exact lp69 ((v12_marks.toInt - (0 : Int32).toInt).toNat + 1) 0 (by omega) (by omega) (by omega) _ _ hP hD hS _ hl
  have c36 := ci_eq c36
  refine lv_iconst (v := (-1)) hx hb dX12_mark_65 (by decide) ?_
  have hpo : (0 ≤ v12_marks.toInt ∧ v12_marks.toInt ≤ 60) ∧ (∀ j : Nat, 0 ≤ (f12_markLine j).toInt ∧ (f12_markLine j).toInt ≤ 19) ∧ (∀ j : Nat, 0 ≤ (f12_markHole j).toInt ∧ (f12_markHole j).toInt ≤ 39) := ⟨i9, hf12_markLine, hf12_markHole⟩
  exact ret _ _ _ _ (-1) (v12_marks, f12_markLine, f12_markHole, f12_isOver) dX12_mark_66 hpo hP hD hS
set_option maxHeartbeats 4000000 in
set_option maxRecDepth 100000 in
theorem k_X12_has (l : Launch) (D : va_G) (κ : Nat → ClassId) (β : Nat) (a12 : Nat) (r12 : Nat → Nat) (v12_keptMany : Int32) (v12_done : Int32) (v12_sheets : Int32) (v12_holes : Int32) (v12_worms : Int32) (v12_laidMany : Int32) (v12_wanted : Int32) (v12_orderMany : Int32) (v12_firstOrder : Int32) (v12_lines : Int32) (v12_marks : Int32) (v12_dots : Int32) (v12_madeIn : Int32) (v12_bound : Int32) (v12_places : Int32) (v12_maps : Int32) (v12_tapeMany : Int32) (v12_stories : Int32) (v12_base : Int32) (v12_at : Int32) (v12_ends : Int32) (v12_fault : Int32) (v12_opened : Int32) (v12_bodies : Int32) (v12_ran : Int32) (v12_ownKind : Int32) (v12_ownNumber : Int32) (f12_wormOf : Nat → Int32) (f12_lineInk : Nat → Int32) (f12_markLine : Nat → Int32) (f12_markHole : Nat → Int32) (f12_isOver : Nat → Int32) (sz : Nat) (p1 : Int32) (p2 : Int32) (p3 : Int32) (p4 : Int32) (i1 : Rg 0 40 v12_keptMany) (i2 : Rg 0 40 v12_done) (i3 : Rg 0 8 v12_sheets) (i4 : Rg 0 40 v12_holes) (i5 : Rg 0 40 v12_worms) (i6 : Rg 0 8 v12_laidMany) (i7 : Rg 0 8 v12_wanted) (i8 : Rg 0 20 v12_lines) (i9 : Rg 0 60 v12_marks) (i10 : Rg 0 40 v12_dots) (i11 : Rg 0 20 v12_places) (i12 : Rg 0 8 v12_maps) (i13 : Rg 0 120 v12_tapeMany) (i14 : Rg 0 6 v12_stories) (i15 : Rg 0 50 v12_bodies) (i16 : Rg 0 1000 v12_ran) (hf12_markLine : ∀ j : Nat, 0 ≤ (f12_markLine j).toInt ∧ (f12_markLine j).toInt ≤ 19) (hf12_markHole : ∀ j : Nat, 0 ≤ (f12_markHole j).toInt ∧ (f12_markHole j).toInt ≤ 39) (i17 : v12_done.toInt ≤ v12_keptMany.toInt) : Met l yX12_has wsX12_has ({ frames := 0, cells := 0, slots := 0, locals := 0 } : Room) (PcK D κ β [O12 a12 r12 v12_keptMany v12_done v12_sheets v12_holes v12_worms v12_laidMany v12_wanted v12_orderMany v12_firstOrder v12_lines v12_marks v12_dots v12_madeIn v12_bound v12_places v12_maps v12_tapeMany v12_stories v12_base v12_at v12_ends v12_fault v12_opened v12_bodies v12_ran v12_ownKind v12_ownNumber, (cI κ (r12 11) 40 f12_wormOf), (cI κ (r12 22) 20 f12_lineInk), (cI κ (r12 24) 60 f12_markLine), (cI κ (r12 25) 60 f12_markHole), (cZ κ (r12 26) 60 f12_isOver)] sz [.ref a12, .int p1, .int p2, .int p3, .int p4]) (QiK D (fun (r : Int32) (u : Unit) => r.toInt = 0 ∨ r.toInt = 1) (fun (u : Unit) => [O12 a12 r12 v12_keptMany v12_done v12_sheets v12_holes v12_worms v12_laidMany v12_wanted v12_orderMany v12_firstOrder v12_lines v12_marks v12_dots v12_madeIn v12_bound v12_places v12_maps v12_tapeMany v12_stories v12_base v12_at v12_ends v12_fault v12_opened v12_bodies v12_ran v12_ownKind v12_ownNumber, (cI κ (r12 11) 40 f12_wormOf), (cI κ (r12 22) 20 f12_lineInk), (cI κ (r12 24) 60 f12_markLine), (cI κ (r12 25) 60 f12_markHole), (cZ κ (r12 26) 60 f12_isOver)]) [O12 a12 r12 v12_keptMany v12_done v12_sheets v12_holes v12_worms v12_laidMany v12_wanted v12_orderMany v12_firstOrder v12_lines v12_marks v12_dots v12_madeIn v12_bound v12_places v12_maps v12_tapeMany v12_stories v12_base v12_at v12_ends v12_fault v12_opened v12_bodies v12_ran v12_ownKind v12_ownNumber, (cI κ (r12 11) 40 f12_wormOf), (cI κ (r12 22) 20 f12_lineInk), (cI κ (r12 24) 60 f12_markLine), (cI κ (r12 25) 60 f12_markHole), (cZ κ (r12 26) 60 f12_isOver)] sz) 0 0 (va_A [O12 a12 r12 v12_keptMany v12_done v12_sheets v12_holes v12_worms v12_laidMany v12_wanted v12_orderMany v12_firstOrder v12_lines v12_marks v12_dots v12_madeIn v12_bound v12_places v12_maps v12_tapeMany v12_stories v12_base v12_at v12_ends v12_fault v12_opened v12_bodies v12_ran v12_ownKind v12_ownNumber, (cI κ (r12 11) 40 f12_wormOf), (cI κ (r12 22) 20 f12_lineInk), (cI κ (r12 24) 60 f12_markLine), (cI κ (r12 25) 60 f12_markHole), (cZ κ (r12 26) 60 f12_isOver)] sz) := by
  refine ofK_z (cc := cX12_has) (maxL := 7) (own := RX12) (by decide) rfl rfl (Nat.le_of_ble_eq_true rfl) ?_
  intro p e s m args below meth c Q A ls hsz hx hb hml hts hown hK hA hAB hP hD hl ret
  have hS : va_S A s.heap s.heap [] := va_S.rf
  have hl : lv_has ls 7 [(0, .ref a12), (1, .int p1), (2, .int p2), (3, .int p3), (4, .int p4)] := hl
  have w0 := hts (.fieldLink RX12 203 "OlderSkinModel" "marks" "I") (List.mem_of_getElem? (i := 1) rfl)
  have w1 := (fun w h => List.mem_cons_of_mem _ (List.mem_append_right _ h) : ∀ w ∈ u_ws RX12 TX12 63, w ∈ wsX12_has)
  have w2 := hts (.fieldLink RX12 31 "OlderSkinModel" "wormOf" "[I") (List.mem_of_getElem? (i := 2) rfl)
  have w3 := hts (.fieldLink RX12 52 "OlderSkinModel" "markHole" "[I") (List.mem_of_getElem? (i := 3) rfl)
  have w4 := hts (.fieldLink RX12 55 "OlderSkinModel" "isOver" "[Z") (List.mem_of_getElem? (i := 4) rfl)
  have w5 := hts (.fieldLink RX12 49 "OlderSkinModel" "markLine" "[I") (List.mem_of_getElem? (i := 6) rfl)
  have w6 := hts (.fieldLink RX12 46 "OlderSkinModel" "lineInk" "[I") (List.mem_of_getElem? (i := 5) rfl)
  have l0 : (0 : Int32).toInt = 0 := by decide
  have l1 : (1 : Int32).toInt = 1 := by decide
  have i9 : 0 ≤ v12_marks.toInt ∧ v12_marks.toInt ≤ 60 := i9
  refine lv_iconst (v := 0) hx hb dX12_has_0 (by decide) ?_
  refine lv_istore (lv' := [(5, .int 0), (0, .ref a12), (1, .int p1), (2, .int p2), (3, .int p3), (4, .int p4)]) hx hb dX12_has_1 hl (by decide) rfl (fun ls hl => ?_)
  have lp3 : ∀ (n3 : Nat) (k1 : Int32), (0 ≤ k1.toInt) → (v12_marks.toInt - k1.toInt).toNat < n3 → ∀ (H : Heap) (locs : List Loc), va_P D vwCl [O12 a12 r12 v12_keptMany v12_done v12_sheets v12_holes v12_worms v12_laidMany v12_wanted v12_orderMany v12_firstOrder v12_lines v12_marks v12_dots v12_madeIn v12_bound v12_places v12_maps v12_tapeMany v12_stories v12_base v12_at v12_ends v12_fault v12_opened v12_bodies v12_ran v12_ownKind v12_ownNumber, (cI κ (r12 11) 40 f12_wormOf), (cI κ (r12 22) 20 f12_lineInk), (cI κ (r12 24) 60 f12_markLine), (cI κ (r12 25) 60 f12_markHole), (cZ κ (r12 26) 60 f12_isOver)] H → va_D A [O12 a12 r12 v12_keptMany v12_done v12_sheets v12_holes v12_worms v12_laidMany v12_wanted v12_orderMany v12_firstOrder v12_lines v12_marks v12_dots v12_madeIn v12_bound v12_places v12_maps v12_tapeMany v12_stories v12_base v12_at v12_ends v12_fault v12_opened v12_bodies v12_ran v12_ownKind v12_ownNumber, (cI κ (r12 11) 40 f12_wormOf), (cI κ (r12 22) 20 f12_lineInk), (cI κ (r12 24) 60 f12_markLine), (cI κ (r12 25) 60 f12_markHole), (cZ κ (r12 26) 60 f12_isOver)] → va_S A s.heap H locs → ∀ ls : Array Slot, lv_has ls 7 [(5, .int k1), (0, .ref a12), (1, .int p1), (2, .int p2), (3, .int p3), (4, .int p4)] → W p l e ({ frames := 0, cells := 0, slots := 0, locals := 0 } : Room) s m args below meth c H locs 0 0 Q (F0 m 3 ls []) := by
    intro n3
    induction n3 with
    | zero =>
      intro k1 h2 m3
      exact absurd m3 (Nat.not_lt_zero _)
    | succ n3 ih3 =>
      intro k1 h2 m3 H locs hP hD hS ls hl
      refine lv_iload hx hb dX12_has_3 (lv_at hl 0 rfl) ?_
      refine lv_aload_n hx hb dX12_has_5 rfl (lv_at hl 1 rfl) ?_
      refine va_get (D := D) (ci := 12) (v := .int v12_marks) (C := RX12) (T := TX12) (N := 63) hx hb hts w1 hown hK.1 hP 0 rfl rfl 23 (by decide) w0 (fun _ h9 => h9) rfl dX12_has_6 ?_
      refine lv_icmp_ge (tgt := 94) hx hb dX12_has_9 (by decide) (fun c4 => ?_) (fun c4 => ?_)
      · have c4 := ci_le c4
        refine lv_iconst (v := 0) hx hb dX12_has_94 (by decide) ?_
        have hpo : (0 : Int32).toInt = 0 ∨ (0 : Int32).toInt = 1 := (by omega)
        exact ret _ _ _ _ 0 () dX12_has_95 (by omega) hpo hP hD hS
      have c4 := ci_nle c4
      refine lv_aload_n hx hb dX12_has_12 rfl (lv_at hl 1 rfl) ?_
      refine va_get (D := D) (ci := 12) (v := .ref (r12 11)) (C := RX12) (T := TX12) (N := 63) hx hb hts w1 hown hK.1 hP 0 rfl rfl 11 (by decide) w2 (fun _ h9 => h9) rfl dX12_has_13 ?_
      refine lv_aload_n hx hb dX12_has_16 rfl (lv_at hl 1 rfl) ?_
      refine va_get (D := D) (ci := 12) (v := .ref (r12 25)) (C := RX12) (T := TX12) (N := 63) hx hb hts w1 hown hK.1 hP 0 rfl rfl 25 (by decide) w3 (fun _ h9 => h9) rfl dX12_has_17 ?_
      refine lv_iload hx hb dX12_has_20 (lv_at hl 0 rfl) ?_
      refine va_iald hx hb hK.1 hP 4 1 rfl rfl (i := k1) (ix (by omega) (by omega)) dX12_has_22 ?_
      refine lv_topi (fun x5 e6 => ?_)
      have h7 : 0 ≤ x5.toInt ∧ x5.toInt ≤ 39 := by rw [e6]; exact hf12_markHole _
      refine va_iald hx hb hK.1 hP 1 1 rfl rfl (i := x5) (ix (by omega) (by omega)) dX12_has_23 ?_
      refine lv_topi (fun x8 e9 => ?_)
      refine lv_iload_n hx hb dX12_has_24 rfl (lv_at hl 2 rfl) ?_
      refine lv_icmp_ne (tgt := 78) hx hb dX12_has_25 (by decide) (fun c10 => ?_) (fun c10 => ?_)
      · have c10 := ci_ne c10
        refine lv_iconst (v := 0) hx hb dX12_has_78 (by decide) ?_
        refine lv_istore (lv' := [(6, .int 0), (5, .int k1), (0, .ref a12), (1, .int p1), (2, .int p2), (3, .int p3), (4, .int p4)]) hx hb dX12_has_79 hl (by decide) rfl (fun ls hl => ?_)
        refine lv_iload hx hb dX12_has_81 (lv_at hl 0 rfl) ?_
        refine lv_if_eq (tgt := 88) hx hb dX12_has_83 (by decide) (fun c11 => ?_) (fun c11 => ?_)
        · have c11 := ci_eq c11
          obtain ⟨x12, e13⟩ : ∃ y : Int32, y = k1 + 1 := ⟨_, rfl⟩
          refine lv_iinc (v := x12) (lv' := [(5, .int x12), (6, .int 0), (0, .ref a12), (1, .int p1), (2, .int p2), (3, .int p3), (4, .int p4)]) hx hb dX12_has_88 hl (k := 1) rfl (by rw [e13]; rfl) (by decide) rfl (fun ls hl => ?_)
          try have h14 : x12.toInt = k1.toInt + (1 : Int32).toInt := ci_add e13 (by omega) (by omega)
          refine lv_goto (tgt := 3) hx hb dX12_has_91 (by decide) ?_
          exact ih3 x12 (by omega) (by omega) _ _ hP hD hS _ (lv_sub hl [0, 2, 3, 4, 5, 6] rfl)
        have c11 := ci_ne c11
        exfalso
        omega
      have c10 := ci_eq c10
      refine lv_aload_n hx hb dX12_has_28 rfl (lv_at hl 1 rfl) ?_
      refine va_get (D := D) (ci := 12) (v := .ref (r12 26)) (C := RX12) (T := TX12) (N := 63) hx hb hts w1 hown hK.1 hP 0 rfl rfl 26 (by decide) w4 (fun _ h9 => h9) rfl dX12_has_29 ?_
      refine lv_iload hx hb dX12_has_32 (lv_at hl 0 rfl) ?_
      refine va_zald hx hb hK.1 hP 5 3 rfl rfl (i := k1) (ix (by omega) (by omega)) dX12_has_34 ?_
      refine lv_topi (fun x15 e16 => ?_)
      refine lv_iload hx hb dX12_has_35 (lv_at hl 5 rfl) ?_
      refine lv_icmp_ne (tgt := 78) hx hb dX12_has_37 (by decide) (fun c17 => ?_) (fun c17 => ?_)
      · have c17 := ci_ne c17
        refine lv_iconst (v := 0) hx hb dX12_has_78 (by decide) ?_
        refine lv_istore (lv' := [(6, .int 0), (5, .int k1), (0, .ref a12), (1, .int p1), (2, .int p2), (3, .int p3), (4, .int p4)]) hx hb dX12_has_79 hl (by decide) rfl (fun ls hl => ?_)
        refine lv_iload hx hb dX12_has_81 (lv_at hl 0 rfl) ?_
        refine lv_if_eq (tgt := 88) hx hb dX12_has_83 (by decide) (fun c18 => ?_) (fun c18 => ?_)
        · have c18 := ci_eq c18
          obtain ⟨x19, e20⟩ : ∃ y : Int32, y = k1 + 1 := ⟨_, rfl⟩
          refine lv_iinc (v := x19) (lv' := [(5, .int x19), (6, .int 0), (0, .ref a12), (1, .int p1), (2, .int p2), (3, .int p3), (4, .int p4)]) hx hb dX12_has_88 hl (k := 1) rfl (by rw [e20]; rfl) (by decide) rfl (fun ls hl => ?_)
          try have h21 : x19.toInt = k1.toInt + (1 : Int32).toInt := ci_add e20 (by omega) (by omega)
          refine lv_goto (tgt := 3) hx hb dX12_has_91 (by decide) ?_
          exact ih3 x19 (by omega) (by omega) _ _ hP hD hS _ (lv_sub hl [0, 2, 3, 4, 5, 6] rfl)
        have c18 := ci_ne c18
        exfalso
        omega
      have c17 := ci_eq c17
      refine lv_iload_n hx hb dX12_has_40 rfl (lv_at hl 4 rfl) ?_
      refine lv_if_ge (tgt := 63) hx hb dX12_has_41 (by decide) (fun c22 => ?_) (fun c22 => ?_)
      · have c22 := ci_le c22
        refine lv_aload_n hx hb dX12_has_63 rfl (lv_at hl 1 rfl) ?_
        refine va_get (D := D) (ci := 12) (v := .ref (r12 24)) (C := RX12) (T := TX12) (N := 63) hx hb hts w1 hown hK.1 hP 0 rfl rfl 24 (by decide) w5 (fun _ h9 => h9) rfl dX12_has_64 ?_
        refine lv_iload hx hb dX12_has_67 (lv_at hl 0 rfl) ?_
        refine va_iald hx hb hK.1 hP 3 1 rfl rfl (i := k1) (ix (by omega) (by omega)) dX12_has_69 ?_
        refine lv_topi (fun x23 e24 => ?_)
        have h25 : 0 ≤ x23.toInt ∧ x23.toInt ≤ 19 := by rw [e24]; exact hf12_markLine _
        refine lv_iload_n hx hb dX12_has_70 rfl (lv_at hl 4 rfl) ?_
        refine lv_icmp_ne (tgt := 78) hx hb dX12_has_71 (by decide) (fun c26 => ?_) (fun c26 => ?_)
        · have c26 := ci_ne c26
          refine lv_iconst (v := 0) hx hb dX12_has_78 (by decide) ?_
          refine lv_istore (lv' := [(6, .int 0), (5, .int k1), (0, .ref a12), (1, .int p1), (2, .int p2), (3, .int p3), (4, .int p4)]) hx hb dX12_has_79 hl (by decide) rfl (fun ls hl => ?_)
          refine lv_iload hx hb dX12_has_81 (lv_at hl 0 rfl) ?_
          refine lv_if_eq (tgt := 88) hx hb dX12_has_83 (by decide) (fun c27 => ?_) (fun c27 => ?_)
          · have c27 := ci_eq c27
            obtain ⟨x28, e29⟩ : ∃ y : Int32, y = k1 + 1 := ⟨_, rfl⟩
            refine lv_iinc (v := x28) (lv' := [(5, .int x28), (6, .int 0), (0, .ref a12), (1, .int p1), (2, .int p2), (3, .int p3), (4, .int p4)]) hx hb dX12_has_88 hl (k := 1) rfl (by rw [e29]; rfl) (by decide) rfl (fun ls hl => ?_)
            try have h30 : x28.toInt = k1.toInt + (1 : Int32).toInt := ci_add e29 (by omega) (by omega)
            refine lv_goto (tgt := 3) hx hb dX12_has_91 (by decide) ?_
            exact ih3 x28 (by omega) (by omega) _ _ hP hD hS _ (lv_sub hl [0, 2, 3, 4, 5, 6] rfl)
          have c27 := ci_ne c27
          exfalso
          omega
        have c26 := ci_eq c26
        refine lv_iconst (v := 1) hx hb dX12_has_74 (by decide) ?_
        refine lv_goto (tgt := 79) hx hb dX12_has_75 (by decide) ?_
        refine lv_istore (lv' := [(6, .int 1), (5, .int k1), (0, .ref a12), (1, .int p1), (2, .int p2), (3, .int p3), (4, .int p4)]) hx hb dX12_has_79 hl (by decide) rfl (fun ls hl => ?_)
        refine lv_iload hx hb dX12_has_81 (lv_at hl 0 rfl) ?_
        refine lv_if_eq (tgt := 88) hx hb dX12_has_83 (by decide) (fun c31 => ?_) (fun c31 => ?_)
        · have c31 := ci_eq c31
          exfalso
          omega
        have c31 := ci_ne c31
        refine lv_iconst (v := 1) hx hb dX12_has_86 (by decide) ?_
        have hpo : (1 : Int32).toInt = 0 ∨ (1 : Int32).toInt = 1 := (by omega)
        exact ret _ _ _ _ 1 () dX12_has_87 (by omega) hpo hP hD hS
      have c22 := ci_nle c22
      refine lv_aload_n hx hb dX12_has_44 rfl (lv_at hl 1 rfl) ?_
      refine va_get (D := D) (ci := 12) (v := .ref (r12 22)) (C := RX12) (T := TX12) (N := 63) hx hb hts w1 hown hK.1 hP 0 rfl rfl 22 (by decide) w6 (fun _ h9 => h9) rfl dX12_has_45 ?_
      refine lv_aload_n hx hb dX12_has_48 rfl (lv_at hl 1 rfl) ?_
      refine va_get (D := D) (ci := 12) (v := .ref (r12 24)) (C := RX12) (T := TX12) (N := 63) hx hb hts w1 hown hK.1 hP 0 rfl rfl 24 (by decide) w5 (fun _ h9 => h9) rfl dX12_has_49 ?_
      refine lv_iload hx hb dX12_has_52 (lv_at hl 0 rfl) ?_
      refine va_iald hx hb hK.1 hP 3 1 rfl rfl (i := k1) (ix (by omega) (by omega)) dX12_has_54 ?_
      refine lv_topi (fun x32 e33 => ?_)
      have h34 : 0 ≤ x32.toInt ∧ x32.toInt ≤ 19 := by rw [e33]; exact hf12_markLine _
      refine va_iald hx hb hK.1 hP 2 1 rfl rfl (i := x32) (ix (by omega) (by omega)) dX12_has_55 ?_
      refine lv_topi (fun x35 e36 => ?_)
      refine lv_iload_n hx hb dX12_has_56 rfl (lv_at hl 3 rfl) ?_
      refine lv_icmp_ne (tgt := 78) hx hb dX12_has_57 (by decide) (fun c37 => ?_) (fun c37 => ?_)
      · have c37 := ci_ne c37
        refine lv_iconst (v := 0) hx hb dX12_has_78 (by decide) ?_
        refine lv_istore (lv' := [(6, .int 0), (5, .int k1), (0, .ref a12), (1, .int p1), (2, .int p2), (3, .int p3), (4, .int p4)]) hx hb dX12_has_79 hl (by decide) rfl (fun ls hl => ?_)
        refine lv_iload hx hb dX12_has_81 (lv_at hl 0 rfl) ?_
        refine lv_if_eq (tgt := 88) hx hb dX12_has_83 (by decide) (fun c38 => ?_) (fun c38 => ?_)
        · have c38 := ci_eq c38
          obtain ⟨x39, e40⟩ : ∃ y : Int32, y = k1 + 1 := ⟨_, rfl⟩
          refine lv_iinc (v := x39) (lv' := [(5, .int x39), (6, .int 0), (0, .ref a12), (1, .int p1), (2, .int p2), (3, .int p3), (4, .int p4)]) hx hb dX12_has_88 hl (k := 1) rfl (by rw [e40]; rfl) (by decide) rfl (fun ls hl => ?_)
          try have h41 : x39.toInt = k1.toInt + (1 : Int32).toInt := ci_add e40 (by omega) (by omega)
          refine lv_goto (tgt := 3) hx hb dX12_has_91 (by decide) ?_
          exact ih3 x39 (by omega) (by omega) _ _ hP hD hS _ (lv_sub hl [0, 2, 3, 4, 5, 6] rfl)
        have c38 := ci_ne c38
        exfalso
        omega
      have c37 := ci_eq c37
      refine lv_goto (tgt := 74) hx hb dX12_has_60 (by decide) ?_
      refine lv_iconst (v := 1) hx hb dX12_has_74 (by decide) ?_
      refine lv_goto (tgt := 79) hx hb dX12_has_75 (by decide) ?_
      refine lv_istore (lv' := [(6, .int 1), (5, .int k1), (0, .ref a12), (1, .int p1), (2, .int p2), (3, .int p3), (4, .int p4)]) hx hb dX12_has_79 hl (by decide) rfl (fun ls hl => ?_)
      refine lv_iload hx hb dX12_has_81 (lv_at hl 0 rfl) ?_
      refine lv_if_eq (tgt := 88) hx hb dX12_has_83 (by decide) (fun c42 => ?_) (fun c42 => ?_)
      · have c42 := ci_eq c42
        exfalso
        omega
      have c42 := ci_ne c42
      refine lv_iconst (v := 1) hx hb dX12_has_86 (by decide) ?_
      have hpo : (1 : Int32).toInt = 0 ∨ (1 : Int32).toInt = 1 := (by omega)
      exact ret _ _ _ _ 1 () dX12_has_87 (by omega) hpo hP hD hS
  exact lp3 ((v12_marks.toInt - (0 : Int32).toInt).toNat + 1) 0 (by omega) (by omega) _ _ hP hD hS _ hl
set_option maxHeartbeats 4000000 in
set_option maxRecDepth 100000 in
theorem k_X12_fight (l : Launch) (D : va_G) (κ : Nat → ClassId) (β : Nat) (a12 : Nat) (r12 : Nat → Nat) (v12_keptMany : Int32) (v12_done : Int32) (v12_sheets : Int32) (v12_holes : Int32) (v12_worms : Int32) (v12_laidMany : Int32) (v12_wanted : Int32) (v12_orderMany : Int32) (v12_firstOrder : Int32) (v12_lines : Int32) (v12_marks : Int32) (v12_dots : Int32) (v12_madeIn : Int32) (v12_bound : Int32) (v12_places : Int32) (v12_maps : Int32) (v12_tapeMany : Int32) (v12_stories : Int32) (v12_base : Int32) (v12_at : Int32) (v12_ends : Int32) (v12_fault : Int32) (v12_opened : Int32) (v12_bodies : Int32) (v12_ran : Int32) (v12_ownKind : Int32) (v12_ownNumber : Int32) (f12_sheetOf : Nat → Int32) (f12_placeOf : Nat → Int32) (f12_sorted : Nat → Int32) (f12_wormOf : Nat → Int32) (f12_wormSheets : Nat → Int32) (f12_lineInk : Nat → Int32) (f12_markLine : Nat → Int32) (f12_markHole : Nat → Int32) (f12_isOver : Nat → Int32) (sz : Nat) (p1 : Int32) (p2 : Int32) (i1 : Rg 0 40 v12_keptMany) (i2 : Rg 0 40 v12_done) (i3 : Rg 0 8 v12_sheets) (i4 : Rg 0 40 v12_holes) (i5 : Rg 0 40 v12_worms) (i6 : Rg 0 8 v12_laidMany) (i7 : Rg 0 8 v12_wanted) (i8 : Rg 0 20 v12_lines) (i9 : Rg 0 60 v12_marks) (i10 : Rg 0 40 v12_dots) (i11 : Rg 0 20 v12_places) (i12 : Rg 0 8 v12_maps) (i13 : Rg 0 120 v12_tapeMany) (i14 : Rg 0 6 v12_stories) (i15 : Rg 0 50 v12_bodies) (i16 : Rg 0 1000 v12_ran) (hf12_sorted : ∀ j : Nat, 0 ≤ (f12_sorted j).toInt ∧ (f12_sorted j).toInt ≤ 39) (hf12_markLine : ∀ j : Nat, 0 ≤ (f12_markLine j).toInt ∧ (f12_markLine j).toInt ≤ 19) (hf12_markHole : ∀ j : Nat, 0 ≤ (f12_markHole j).toInt ∧ (f12_markHole j).toInt ≤ 39) (i17 : v12_done.toInt ≤ v12_keptMany.toInt) : Met l yX12_fight wsX12_fight ({ frames := 2, cells := 0, slots := 0, locals := 45 } : Room) (PcK D κ β [O12 a12 r12 v12_keptMany v12_done v12_sheets v12_holes v12_worms v12_laidMany v12_wanted v12_orderMany v12_firstOrder v12_lines v12_marks v12_dots v12_madeIn v12_bound v12_places v12_maps v12_tapeMany v12_stories v12_base v12_at v12_ends v12_fault v12_opened v12_bodies v12_ran v12_ownKind v12_ownNumber, (cI κ (r12 8) 40 f12_sheetOf), (cI κ (r12 9) 40 f12_placeOf), (cI κ (r12 10) 40 f12_sorted), (cI κ (r12 11) 40 f12_wormOf), (cI κ (r12 12) 40 f12_wormSheets), (cI κ (r12 22) 20 f12_lineInk), (cI κ (r12 24) 60 f12_markLine), (cI κ (r12 25) 60 f12_markHole), (cZ κ (r12 26) 60 f12_isOver)] sz [.ref a12, .int p1, .int p2]) (QiK D (fun (r : Int32) (u : Int32 × (Nat → Int32) × (Nat → Int32) × (Nat → Int32)) => (0 ≤ u.1.toInt ∧ u.1.toInt ≤ 40) ∧ (∀ j : Nat, 0 ≤ (u.2.1 j).toInt ∧ (u.2.1 j).toInt ≤ 39)) (fun (u : Int32 × (Nat → Int32) × (Nat → Int32) × (Nat → Int32)) => [O12 a12 r12 v12_keptMany v12_done v12_sheets v12_holes u.1 v12_laidMany v12_wanted v12_orderMany v12_firstOrder v12_lines v12_marks v12_dots v12_madeIn v12_bound v12_places v12_maps v12_tapeMany v12_stories v12_base v12_at v12_ends v12_fault v12_opened v12_bodies v12_ran v12_ownKind v12_ownNumber, (cI κ (r12 8) 40 f12_sheetOf), (cI κ (r12 9) 40 f12_placeOf), (cI κ (r12 10) 40 u.2.1), (cI κ (r12 11) 40 u.2.2.1), (cI κ (r12 12) 40 u.2.2.2), (cI κ (r12 22) 20 f12_lineInk), (cI κ (r12 24) 60 f12_markLine), (cI κ (r12 25) 60 f12_markHole), (cZ κ (r12 26) 60 f12_isOver)]) [O12 a12 r12 v12_keptMany v12_done v12_sheets v12_holes v12_worms v12_laidMany v12_wanted v12_orderMany v12_firstOrder v12_lines v12_marks v12_dots v12_madeIn v12_bound v12_places v12_maps v12_tapeMany v12_stories v12_base v12_at v12_ends v12_fault v12_opened v12_bodies v12_ran v12_ownKind v12_ownNumber, (cI κ (r12 8) 40 f12_sheetOf), (cI κ (r12 9) 40 f12_placeOf), (cI κ (r12 10) 40 f12_sorted), (cI κ (r12 11) 40 f12_wormOf), (cI κ (r12 12) 40 f12_wormSheets), (cI κ (r12 22) 20 f12_lineInk), (cI κ (r12 24) 60 f12_markLine), (cI κ (r12 25) 60 f12_markHole), (cZ κ (r12 26) 60 f12_isOver)] sz) 0 0 (va_A [O12 a12 r12 v12_keptMany v12_done v12_sheets v12_holes v12_worms v12_laidMany v12_wanted v12_orderMany v12_firstOrder v12_lines v12_marks v12_dots v12_madeIn v12_bound v12_places v12_maps v12_tapeMany v12_stories v12_base v12_at v12_ends v12_fault v12_opened v12_bodies v12_ran v12_ownKind v12_ownNumber, (cI κ (r12 8) 40 f12_sheetOf), (cI κ (r12 9) 40 f12_placeOf), (cI κ (r12 10) 40 f12_sorted), (cI κ (r12 11) 40 f12_wormOf), (cI κ (r12 12) 40 f12_wormSheets), (cI κ (r12 22) 20 f12_lineInk), (cI κ (r12 24) 60 f12_markLine), (cI κ (r12 25) 60 f12_markHole), (cZ κ (r12 26) 60 f12_isOver)] sz) := by
  refine ofK_i (cc := cX12_fight) (maxL := 5) (own := RX12) (by decide) rfl rfl (Nat.le_of_ble_eq_true rfl) ?_
  intro p e s m args below meth c Q A ls hsz hx hb hml hts hown hK hA hAB hP hD hl ret
  have hS : va_S A s.heap s.heap [] := va_S.rf
  have hl : lv_has ls 5 [(0, .ref a12), (1, .int p1), (2, .int p2)] := hl
  have w0 := hts (.fieldLink RX12 200 "OlderSkinModel" "lines" "I") (List.mem_of_getElem? (i := 1) rfl)
  have w1 := (fun w h => List.mem_cons_of_mem _ (List.mem_append_right _ h) : ∀ w ∈ u_ws RX12 TX12 63, w ∈ wsX12_fight)
  have w2 := hts (.fieldLink RX12 160 "OlderSkinModel" "worms" "I") (List.mem_of_getElem? (i := 2) rfl)
  have w3 := hts (.fieldLink RX12 46 "OlderSkinModel" "lineInk" "[I") (List.mem_of_getElem? (i := 3) rfl)
  have l0 : (0 : Int32).toInt = 0 := by decide
  have l1 : ((-1) : Int32).toInt = -1 := by decide
  have l2 : (0 : Int64).toInt = 0 := by decide
  have l3 : (1 : Int64).toInt = 1 := by decide
  have l4 : ((-2) : Int32).toInt = -2 := by decide
  have l5 : (1 : Int32).toInt = 1 := by decide
  have i5 : 0 ≤ v12_worms.toInt ∧ v12_worms.toInt ≤ 40 := i5
  have i8 : 0 ≤ v12_lines.toInt ∧ v12_lines.toInt ≤ 20 := i8
  refine lv_iload_n hx hb dX12_fight_0 rfl (lv_at hl 1 rfl) ?_
  refine kcm_i hA hAB hP hD hS [false, false, false, false, false, false, false, false, false, false] rfl (fun _ => rfl) (fun hPc hDc => va_runS (As := [.int p1]) (rest := []) ⟨hx, hb, hml, hown, hts⟩ (k_X12_isSlack l D κ β s.heap.size p1) (va_cwS 1 hts gX12_fight_X12_isSlack rfl rfl rfl (by decide +kernel) ⟨Nat.le_of_ble_eq_true rfl, Nat.le_of_ble_eq_true rfl⟩) (pk_S hK hS hAB hPc hDc) rfl rfl hl.1 rfl (lv_room (Nat.le_of_ble_eq_true rfl)) dX12_fight_1 ⟨Nat.le_of_ble_eq_true rfl, Nat.le_of_ble_eq_true rfl⟩) (fun x1 u2 H locs hw hPD hS => ?_)
  have h3 : (x1.toInt = 1 ∧ 0 ≤ p1.toInt ∧ p1.toInt ≤ 99) ∨ (x1.toInt = 0 ∧ (p1.toInt < 0 ∨ 99 < p1.toInt)) := hw
  obtain ⟨hP, hD⟩ : PD D A [O12 a12 r12 v12_keptMany v12_done v12_sheets v12_holes v12_worms v12_laidMany v12_wanted v12_orderMany v12_firstOrder v12_lines v12_marks v12_dots v12_madeIn v12_bound v12_places v12_maps v12_tapeMany v12_stories v12_base v12_at v12_ends v12_fault v12_opened v12_bodies v12_ran v12_ownKind v12_ownNumber, (cI κ (r12 8) 40 f12_sheetOf), (cI κ (r12 9) 40 f12_placeOf), (cI κ (r12 10) 40 f12_sorted), (cI κ (r12 11) 40 f12_wormOf), (cI κ (r12 12) 40 f12_wormSheets), (cI κ (r12 22) 20 f12_lineInk), (cI κ (r12 24) 60 f12_markLine), (cI κ (r12 25) 60 f12_markHole), (cZ κ (r12 26) 60 f12_isOver)] H := hPD
  refine lv_if_eq (tgt := 17) hx hb dX12_fight_4 (by decide) (fun c4 => ?_) (fun c4 => ?_)
  · have c4 := ci_eq c4
    refine lv_iconst (v := (-1)) hx hb dX12_fight_17 (by decide) ?_
    have hpo : (0 ≤ v12_worms.toInt ∧ v12_worms.toInt ≤ 40) ∧ (∀ j : Nat, 0 ≤ (f12_sorted j).toInt ∧ (f12_sorted j).toInt ≤ 39) := ⟨i5, hf12_sorted⟩
    exact ret _ _ _ _ (-1) (v12_worms, f12_sorted, f12_wormOf, f12_wormSheets) dX12_fight_18 hpo hP hD hS
  have c4 := ci_ne c4
  refine lv_iload_n hx hb dX12_fight_7 rfl (lv_at hl 2 rfl) ?_
  refine lv_i2l hx hb dX12_fight_8 rfl ?_
  refine lv_topl (fun x5 e6 => ?_)
  have h7 : x5.toInt = p2.toInt := cl_i2l e6
  refine lv_lconst (v := (0 : Int64)) hx hb dX12_fight_9 (by decide) ?_
  refine lv_lconst (v := (1 : Int64)) hx hb dX12_fight_10 (by decide) ?_
  refine kcm_i hA hAB hP hD hS [false, false, false, false, false, false, false, false, false, false] rfl (fun _ => rfl) (fun hPc hDc => va_runS (As := [.long x5, .long (0 : Int64), .long (1 : Int64)]) (rest := []) ⟨hx, hb, hml, hown, hts⟩ (k_X12_within l D κ β H.size x5 (0 : Int64) (1 : Int64)) (va_cwS 3 hts gX12_fight_X12_within rfl rfl rfl (by decide +kernel) ⟨Nat.le_of_ble_eq_true rfl, Nat.le_of_ble_eq_true rfl⟩) (pk_S hK hS hAB hPc hDc) rfl rfl hl.1 rfl (lv_room (Nat.le_of_ble_eq_true rfl)) dX12_fight_11 ⟨Nat.le_of_ble_eq_true rfl, Nat.le_of_ble_eq_true rfl⟩) (fun x8 u9 H locs hw hPD hS => ?_)
  have h10 : (x8.toInt = 1 ∧ (0 : Int64).toInt ≤ x5.toInt ∧ x5.toInt ≤ (1 : Int64).toInt) ∨ (x8.toInt = 0 ∧ (x5.toInt < (0 : Int64).toInt ∨ (1 : Int64).toInt < x5.toInt)) := hw
  obtain ⟨hP, hD⟩ : PD D A [O12 a12 r12 v12_keptMany v12_done v12_sheets v12_holes v12_worms v12_laidMany v12_wanted v12_orderMany v12_firstOrder v12_lines v12_marks v12_dots v12_madeIn v12_bound v12_places v12_maps v12_tapeMany v12_stories v12_base v12_at v12_ends v12_fault v12_opened v12_bodies v12_ran v12_ownKind v12_ownNumber, (cI κ (r12 8) 40 f12_sheetOf), (cI κ (r12 9) 40 f12_placeOf), (cI κ (r12 10) 40 f12_sorted), (cI κ (r12 11) 40 f12_wormOf), (cI κ (r12 12) 40 f12_wormSheets), (cI κ (r12 22) 20 f12_lineInk), (cI κ (r12 24) 60 f12_markLine), (cI κ (r12 25) 60 f12_markHole), (cZ κ (r12 26) 60 f12_isOver)] H := hPD
  refine lv_if_ne (tgt := 19) hx hb dX12_fight_14 (by decide) (fun c11 => ?_) (fun c11 => ?_)
  · have c11 := ci_ne c11
    refine lv_aload_n hx hb dX12_fight_19 rfl (lv_at hl 0 rfl) ?_
    refine lv_iload_n hx hb dX12_fight_20 rfl (lv_at hl 1 rfl) ?_
    refine lv_iconst (v := (-1)) hx hb dX12_fight_21 (by decide) ?_
    refine kcm_v hA hAB hP hD hS [true, true, true, true, true, true, false, false, false, false] rfl (fun _ => rfl) (fun hPc hDc => va_runV (As := [.int p1, .int (-1)]) (rest := []) ⟨hx, hb, hml, hown, hts⟩ (k_X12_findWorms l D κ β a12 r12 v12_keptMany v12_done v12_sheets v12_holes v12_worms v12_laidMany v12_wanted v12_orderMany v12_firstOrder v12_lines v12_marks v12_dots v12_madeIn v12_bound v12_places v12_maps v12_tapeMany v12_stories v12_base v12_at v12_ends v12_fault v12_opened v12_bodies v12_ran v12_ownKind v12_ownNumber f12_sheetOf f12_placeOf f12_sorted f12_wormOf f12_wormSheets H.size p1 (-1) i1 i2 i3 i4 i5 i6 i7 i8 i9 i10 i11 i12 i13 i14 i15 i16 hf12_sorted i17) (cwV 2 hts gX12_fight_X12_findWorms rfl rfl rfl (by decide +kernel) ⟨Nat.le_of_ble_eq_true rfl, Nat.le_of_ble_eq_true rfl⟩) (pk_V hK hS hAB hPc hDc 0 (ci := 12) rfl rfl rfl) rfl rfl hl.1 rfl (lv_room (Nat.le_of_ble_eq_true rfl)) dX12_fight_22 ⟨Nat.le_of_ble_eq_true rfl, Nat.le_of_ble_eq_true rfl⟩) (fun u16 H locs hw hPD hS => ?_)
    obtain ⟨x12, g13, g14, g15⟩ := u16
    obtain ⟨h17, h18⟩ : (0 ≤ x12.toInt ∧ x12.toInt ≤ 40) ∧ (∀ j : Nat, 0 ≤ (g13 j).toInt ∧ (g13 j).toInt ≤ 39) := hw
    obtain ⟨hP, hD⟩ : PD D A [O12 a12 r12 v12_keptMany v12_done v12_sheets v12_holes x12 v12_laidMany v12_wanted v12_orderMany v12_firstOrder v12_lines v12_marks v12_dots v12_madeIn v12_bound v12_places v12_maps v12_tapeMany v12_stories v12_base v12_at v12_ends v12_fault v12_opened v12_bodies v12_ran v12_ownKind v12_ownNumber, (cI κ (r12 8) 40 f12_sheetOf), (cI κ (r12 9) 40 f12_placeOf), (cI κ (r12 10) 40 g13), (cI κ (r12 11) 40 g14), (cI κ (r12 12) 40 g15), (cI κ (r12 22) 20 f12_lineInk), (cI κ (r12 24) 60 f12_markLine), (cI κ (r12 25) 60 f12_markHole), (cZ κ (r12 26) 60 f12_isOver)] H := hPD
    refine lv_iconst (v := 0) hx hb dX12_fight_25 (by decide) ?_
    refine lv_istore_n (lv' := [(3, .int 0), (0, .ref a12), (1, .int p1), (2, .int p2)]) hx hb dX12_fight_26 rfl hl (by decide) rfl (fun ls hl => ?_)
    have lp27 : ∀ (n27 : Nat) (k19 : Int32), (0 ≤ k19.toInt) → (v12_lines.toInt - k19.toInt).toNat < n27 → ∀ (H : Heap) (locs : List Loc), va_P D vwCl [O12 a12 r12 v12_keptMany v12_done v12_sheets v12_holes x12 v12_laidMany v12_wanted v12_orderMany v12_firstOrder v12_lines v12_marks v12_dots v12_madeIn v12_bound v12_places v12_maps v12_tapeMany v12_stories v12_base v12_at v12_ends v12_fault v12_opened v12_bodies v12_ran v12_ownKind v12_ownNumber, (cI κ (r12 8) 40 f12_sheetOf), (cI κ (r12 9) 40 f12_placeOf), (cI κ (r12 10) 40 g13), (cI κ (r12 11) 40 g14), (cI κ (r12 12) 40 g15), (cI κ (r12 22) 20 f12_lineInk), (cI κ (r12 24) 60 f12_markLine), (cI κ (r12 25) 60 f12_markHole), (cZ κ (r12 26) 60 f12_isOver)] H → va_D A [O12 a12 r12 v12_keptMany v12_done v12_sheets v12_holes x12 v12_laidMany v12_wanted v12_orderMany v12_firstOrder v12_lines v12_marks v12_dots v12_madeIn v12_bound v12_places v12_maps v12_tapeMany v12_stories v12_base v12_at v12_ends v12_fault v12_opened v12_bodies v12_ran v12_ownKind v12_ownNumber, (cI κ (r12 8) 40 f12_sheetOf), (cI κ (r12 9) 40 f12_placeOf), (cI κ (r12 10) 40 g13), (cI κ (r12 11) 40 g14), (cI κ (r12 12) 40 g15), (cI κ (r12 22) 20 f12_lineInk), (cI κ (r12 24) 60 f12_markLine), (cI κ (r12 25) 60 f12_markHole), (cZ κ (r12 26) 60 f12_isOver)] → va_S A s.heap H locs → ∀ ls : Array Slot, lv_has ls 5 [(3, .int k19), (0, .ref a12), (1, .int p1), (2, .int p2)] → W p l e ({ frames := 2, cells := 0, slots := 0, locals := 45 } : Room) s m args below meth c H locs 0 0 Q (F0 m 27 ls []) := by
      intro n27
      induction n27 with
      | zero =>
        intro k19 h20 m21
        exact absurd m21 (Nat.not_lt_zero _)
      | succ n27 ih27 =>
        intro k19 h20 m21 H locs hP hD hS ls hl
        refine lv_iload_n hx hb dX12_fight_27 rfl (lv_at hl 0 rfl) ?_
        refine lv_aload_n hx hb dX12_fight_28 rfl (lv_at hl 1 rfl) ?_
        refine va_get (D := D) (ci := 12) (v := .int v12_lines) (C := RX12) (T := TX12) (N := 63) hx hb hts w1 hown hK.1 hP 0 rfl rfl 20 (by decide) w0 (fun _ h9 => h9) rfl dX12_fight_29 ?_
        refine lv_icmp_ge (tgt := 99) hx hb dX12_fight_32 (by decide) (fun c22 => ?_) (fun c22 => ?_)
        · have c22 := ci_le c22
          refine lv_bipush (v := (-2)) hx hb dX12_fight_99 (by decide) ?_
          have hpo : (0 ≤ x12.toInt ∧ x12.toInt ≤ 40) ∧ (∀ j : Nat, 0 ≤ (g13 j).toInt ∧ (g13 j).toInt ≤ 39) := ⟨h17, h18⟩
          exact ret _ _ _ _ (-2) (x12, g13, g14, g15) dX12_fight_101 hpo hP hD hS
        have c22 := ci_nle c22
        refine lv_iconst (v := 0) hx hb dX12_fight_35 (by decide) ?_
        refine lv_istore (lv' := [(4, .int 0), (3, .int k19), (0, .ref a12), (1, .int p1), (2, .int p2)]) hx hb dX12_fight_36 hl (by decide) rfl (fun ls hl => ?_)
        have lp38 : ∀ (n38 : Nat) (k23 : Int32), (0 ≤ k23.toInt) → (x12.toInt - k23.toInt).toNat < n38 → ∀ (H : Heap) (locs : List Loc), va_P D vwCl [O12 a12 r12 v12_keptMany v12_done v12_sheets v12_holes x12 v12_laidMany v12_wanted v12_orderMany v12_firstOrder v12_lines v12_marks v12_dots v12_madeIn v12_bound v12_places v12_maps v12_tapeMany v12_stories v12_base v12_at v12_ends v12_fault v12_opened v12_bodies v12_ran v12_ownKind v12_ownNumber, (cI κ (r12 8) 40 f12_sheetOf), (cI κ (r12 9) 40 f12_placeOf), (cI κ (r12 10) 40 g13), (cI κ (r12 11) 40 g14), (cI κ (r12 12) 40 g15), (cI κ (r12 22) 20 f12_lineInk), (cI κ (r12 24) 60 f12_markLine), (cI κ (r12 25) 60 f12_markHole), (cZ κ (r12 26) 60 f12_isOver)] H → va_D A [O12 a12 r12 v12_keptMany v12_done v12_sheets v12_holes x12 v12_laidMany v12_wanted v12_orderMany v12_firstOrder v12_lines v12_marks v12_dots v12_madeIn v12_bound v12_places v12_maps v12_tapeMany v12_stories v12_base v12_at v12_ends v12_fault v12_opened v12_bodies v12_ran v12_ownKind v12_ownNumber, (cI κ (r12 8) 40 f12_sheetOf), (cI κ (r12 9) 40 f12_placeOf), (cI κ (r12 10) 40 g13), (cI κ (r12 11) 40 g14), (cI κ (r12 12) 40 g15), (cI κ (r12 22) 20 f12_lineInk), (cI κ (r12 24) 60 f12_markLine), (cI κ (r12 25) 60 f12_markHole), (cZ κ (r12 26) 60 f12_isOver)] → va_S A s.heap H locs → ∀ ls : Array Slot, lv_has ls 5 [(4, .int k23), (3, .int k19), (0, .ref a12), (1, .int p1), (2, .int p2)] → W p l e ({ frames := 2, cells := 0, slots := 0, locals := 45 } : Room) s m args below meth c H locs 0 0 Q (F0 m 38 ls []) := by
          intro n38
          induction n38 with
          | zero =>
            intro k23 h24 m25
            exact absurd m25 (Nat.not_lt_zero _)
          | succ n38 ih38 =>
            intro k23 h24 m25 H locs hP hD hS ls hl
            refine lv_iload hx hb dX12_fight_38 (lv_at hl 0 rfl) ?_
            refine lv_aload_n hx hb dX12_fight_40 rfl (lv_at hl 2 rfl) ?_
            refine va_get (D := D) (ci := 12) (v := .int x12) (C := RX12) (T := TX12) (N := 63) hx hb hts w1 hown hK.1 hP 0 rfl rfl 13 (by decide) w2 (fun _ h9 => h9) rfl dX12_fight_41 ?_
            refine lv_icmp_ge (tgt := 93) hx hb dX12_fight_44 (by decide) (fun c26 => ?_) (fun c26 => ?_)
            · have c26 := ci_le c26
              obtain ⟨x27, e28⟩ : ∃ y : Int32, y = k19 + 1 := ⟨_, rfl⟩
              refine lv_iinc (v := x27) (lv' := [(3, .int x27), (4, .int k23), (0, .ref a12), (1, .int p1), (2, .int p2)]) hx hb dX12_fight_93 hl (k := 1) rfl (by rw [e28]; rfl) (by decide) rfl (fun ls hl => ?_)
              try have h29 : x27.toInt = k19.toInt + (1 : Int32).toInt := ci_add e28 (by omega) (by omega)
              refine lv_goto (tgt := 27) hx hb dX12_fight_96 (by decide) ?_
              exact ih27 x27 (by omega) (by omega) _ _ hP hD hS _ (lv_sub hl [0, 2, 3, 4] rfl)
            have c26 := ci_nle c26
            refine lv_aload_n hx hb dX12_fight_47 rfl (lv_at hl 2 rfl) ?_
            refine lv_iload hx hb dX12_fight_48 (lv_at hl 0 rfl) ?_
            refine lv_iconst (v := (-1)) hx hb dX12_fight_50 (by decide) ?_
            refine lv_iload_n hx hb dX12_fight_51 rfl (lv_at hl 1 rfl) ?_
            refine lv_iconst (v := 1) hx hb dX12_fight_52 (by decide) ?_
            refine kcm_i hA hAB hP hD hS [true, false, false, false, true, false, true, true, true, true] rfl (fun _ => rfl) (fun hPc hDc => va_runV (As := [.int k23, .int (-1), .int k19, .int 1]) (rest := []) ⟨hx, hb, hml, hown, hts⟩ (k_X12_has l D κ β a12 r12 v12_keptMany v12_done v12_sheets v12_holes x12 v12_laidMany v12_wanted v12_orderMany v12_firstOrder v12_lines v12_marks v12_dots v12_madeIn v12_bound v12_places v12_maps v12_tapeMany v12_stories v12_base v12_at v12_ends v12_fault v12_opened v12_bodies v12_ran v12_ownKind v12_ownNumber g14 f12_lineInk f12_markLine f12_markHole f12_isOver H.size k23 (-1) k19 1 i1 i2 i3 i4 h17 i6 i7 i8 i9 i10 i11 i12 i13 i14 i15 i16 hf12_markLine hf12_markHole i17) (cwV 4 hts gX12_fight_X12_has rfl rfl rfl (by decide +kernel) ⟨Nat.le_of_ble_eq_true rfl, Nat.le_of_ble_eq_true rfl⟩) (pk_V hK hS hAB hPc hDc 0 (ci := 12) rfl rfl rfl) rfl rfl hl.1 rfl (lv_room (Nat.le_of_ble_eq_true rfl)) dX12_fight_53 ⟨Nat.le_of_ble_eq_true rfl, Nat.le_of_ble_eq_true rfl⟩) (fun x30 u31 H locs hw hPD hS => ?_)
            have h32 : x30.toInt = 0 ∨ x30.toInt = 1 := hw
            obtain ⟨hP, hD⟩ : PD D A [O12 a12 r12 v12_keptMany v12_done v12_sheets v12_holes x12 v12_laidMany v12_wanted v12_orderMany v12_firstOrder v12_lines v12_marks v12_dots v12_madeIn v12_bound v12_places v12_maps v12_tapeMany v12_stories v12_base v12_at v12_ends v12_fault v12_opened v12_bodies v12_ran v12_ownKind v12_ownNumber, (cI κ (r12 8) 40 f12_sheetOf), (cI κ (r12 9) 40 f12_placeOf), (cI κ (r12 10) 40 g13), (cI κ (r12 11) 40 g14), (cI κ (r12 12) 40 g15), (cI κ (r12 22) 20 f12_lineInk), (cI κ (r12 24) 60 f12_markLine), (cI κ (r12 25) 60 f12_markHole), (cZ κ (r12 26) 60 f12_isOver)] H := hPD
            refine lv_if_eq (tgt := 87) hx hb dX12_fight_56 (by decide) (fun c33 => ?_) (fun c33 => ?_)
            · have c33 := ci_eq c33
              obtain ⟨x34, e35⟩ : ∃ y : Int32, y = k23 + 1 := ⟨_, rfl⟩
              refine lv_iinc (v := x34) (lv' := [(4, .int x34), (3, .int k19), (0, .ref a12), (1, .int p1), (2, .int p2)]) hx hb dX12_fight_87 hl (k := 0) rfl (by rw [e35]; rfl) (by decide) rfl (fun ls hl => ?_)
              try have h36 : x34.toInt = k23.toInt + (1 : Int32).toInt := ci_add e35 (by omega) (by omega)
              refine lv_goto (tgt := 38) hx hb dX12_fight_90 (by decide) ?_
              exact ih38 x34 (by omega) (by omega) _ _ hP hD hS _ hl
            have c33 := ci_ne c33
            refine lv_aload_n hx hb dX12_fight_59 rfl (lv_at hl 2 rfl) ?_
            refine lv_iload hx hb dX12_fight_60 (lv_at hl 0 rfl) ?_
            refine lv_aload_n hx hb dX12_fight_62 rfl (lv_at hl 2 rfl) ?_
            refine va_get (D := D) (ci := 12) (v := .ref (r12 22)) (C := RX12) (T := TX12) (N := 63) hx hb hts w1 hown hK.1 hP 0 rfl rfl 22 (by decide) w3 (fun _ h9 => h9) rfl dX12_fight_63 ?_
            refine lv_iload_n hx hb dX12_fight_66 rfl (lv_at hl 1 rfl) ?_
            refine va_iald hx hb hK.1 hP 6 1 rfl rfl (i := k19) (ix (by omega) (by omega)) dX12_fight_67 ?_
            refine lv_topi (fun x37 e38 => ?_)
            refine lv_iconst (v := (-1)) hx hb dX12_fight_68 (by decide) ?_
            refine lv_iconst (v := 0) hx hb dX12_fight_69 (by decide) ?_
            refine kcm_i hA hAB hP hD hS [true, false, false, false, true, false, true, true, true, true] rfl (fun _ => rfl) (fun hPc hDc => va_runV (As := [.int k23, .int x37, .int (-1), .int 0]) (rest := []) ⟨hx, hb, hml, hown, hts⟩ (k_X12_has l D κ β a12 r12 v12_keptMany v12_done v12_sheets v12_holes x12 v12_laidMany v12_wanted v12_orderMany v12_firstOrder v12_lines v12_marks v12_dots v12_madeIn v12_bound v12_places v12_maps v12_tapeMany v12_stories v12_base v12_at v12_ends v12_fault v12_opened v12_bodies v12_ran v12_ownKind v12_ownNumber g14 f12_lineInk f12_markLine f12_markHole f12_isOver H.size k23 x37 (-1) 0 i1 i2 i3 i4 h17 i6 i7 i8 i9 i10 i11 i12 i13 i14 i15 i16 hf12_markLine hf12_markHole i17) (cwV 4 hts gX12_fight_X12_has rfl rfl rfl (by decide +kernel) ⟨Nat.le_of_ble_eq_true rfl, Nat.le_of_ble_eq_true rfl⟩) (pk_V hK hS hAB hPc hDc 0 (ci := 12) rfl rfl rfl) rfl rfl hl.1 rfl (lv_room (Nat.le_of_ble_eq_true rfl)) dX12_fight_70 ⟨Nat.le_of_ble_eq_true rfl, Nat.le_of_ble_eq_true rfl⟩) (fun x39 u40 H locs hw hPD hS => ?_)
            have h41 : x39.toInt = 0 ∨ x39.toInt = 1 := hw
            obtain ⟨hP, hD⟩ : PD D A [O12 a12 r12 v12_keptMany v12_done v12_sheets v12_holes x12 v12_laidMany v12_wanted v12_orderMany v12_firstOrder v12_lines v12_marks v12_dots v12_madeIn v12_bound v12_places v12_maps v12_tapeMany v12_stories v12_base v12_at v12_ends v12_fault v12_opened v12_bodies v12_ran v12_ownKind v12_ownNumber, (cI κ (r12 8) 40 f12_sheetOf), (cI κ (r12 9) 40 f12_placeOf), (cI κ (r12 10) 40 g13), (cI κ (r12 11) 40 g14), (cI κ (r12 12) 40 g15), (cI κ (r12 22) 20 f12_lineInk), (cI κ (r12 24) 60 f12_markLine), (cI κ (r12 25) 60 f12_markHole), (cZ κ (r12 26) 60 f12_isOver)] H := hPD
            refine lv_if_eq (tgt := 87) hx hb dX12_fight_73 (by decide) (fun c42 => ?_) (fun c42 => ?_)
            · have c42 := ci_eq c42
              obtain ⟨x43, e44⟩ : ∃ y : Int32, y = k23 + 1 := ⟨_, rfl⟩
              refine lv_iinc (v := x43) (lv' := [(4, .int x43), (3, .int k19), (0, .ref a12), (1, .int p1), (2, .int p2)]) hx hb dX12_fight_87 hl (k := 0) rfl (by rw [e44]; rfl) (by decide) rfl (fun ls hl => ?_)
              try have h45 : x43.toInt = k23.toInt + (1 : Int32).toInt := ci_add e44 (by omega) (by omega)
              refine lv_goto (tgt := 38) hx hb dX12_fight_90 (by decide) ?_
              exact ih38 x43 (by omega) (by omega) _ _ hP hD hS _ hl
            have c42 := ci_ne c42
            refine lv_iload_n hx hb dX12_fight_76 rfl (lv_at hl 4 rfl) ?_
            refine lv_if_ne (tgt := 84) hx hb dX12_fight_77 (by decide) (fun c46 => ?_) (fun c46 => ?_)
            · have c46 := ci_ne c46
              refine lv_iload hx hb dX12_fight_84 (lv_at hl 0 rfl) ?_
              have hpo : (0 ≤ x12.toInt ∧ x12.toInt ≤ 40) ∧ (∀ j : Nat, 0 ≤ (g13 j).toInt ∧ (g13 j).toInt ≤ 39) := ⟨h17, h18⟩
              exact ret _ _ _ _ k23 (x12, g13, g14, g15) dX12_fight_86 hpo hP hD hS
            have c46 := ci_eq c46
            refine lv_iload_n hx hb dX12_fight_80 rfl (lv_at hl 1 rfl) ?_
            refine lv_goto (tgt := 86) hx hb dX12_fight_81 (by decide) ?_
            have hpo : (0 ≤ x12.toInt ∧ x12.toInt ≤ 40) ∧ (∀ j : Nat, 0 ≤ (g13 j).toInt ∧ (g13 j).toInt ≤ 39) := ⟨h17, h18⟩
            exact ret _ _ _ _ k19 (x12, g13, g14, g15) dX12_fight_86 hpo hP hD hS
        exact lp38 ((x12.toInt - (0 : Int32).toInt).toNat + 1) 0 (by omega) (by omega) _ _ hP hD hS _ hl
    exact lp27 ((v12_lines.toInt - (0 : Int32).toInt).toNat + 1) 0 (by omega) (by omega) _ _ hP hD hS _ hl
  have c11 := ci_eq c11
  refine lv_iconst (v := (-1)) hx hb dX12_fight_17 (by decide) ?_
  have hpo : (0 ≤ v12_worms.toInt ∧ v12_worms.toInt ≤ 40) ∧ (∀ j : Nat, 0 ≤ (f12_sorted j).toInt ∧ (f12_sorted j).toInt ≤ 39) := ⟨i5, hf12_sorted⟩
  exact ret _ _ _ _ (-1) (v12_worms, f12_sorted, f12_wormOf, f12_wormSheets) dX12_fight_18 hpo hP hD hS
set_option maxHeartbeats 4000000 in
set_option maxRecDepth 100000 in
theorem k_X12_cameFirst (l : Launch) (D : va_G) (κ : Nat → ClassId) (β : Nat) (a12 : Nat) (r12 : Nat → Nat) (v12_keptMany : Int32) (v12_done : Int32) (v12_sheets : Int32) (v12_holes : Int32) (v12_worms : Int32) (v12_laidMany : Int32) (v12_wanted : Int32) (v12_orderMany : Int32) (v12_firstOrder : Int32) (v12_lines : Int32) (v12_marks : Int32) (v12_dots : Int32) (v12_madeIn : Int32) (v12_bound : Int32) (v12_places : Int32) (v12_maps : Int32) (v12_tapeMany : Int32) (v12_stories : Int32) (v12_base : Int32) (v12_at : Int32) (v12_ends : Int32) (v12_fault : Int32) (v12_opened : Int32) (v12_bodies : Int32) (v12_ran : Int32) (v12_ownKind : Int32) (v12_ownNumber : Int32) (f12_wormOf : Nat → Int32) (f12_lineInk : Nat → Int32) (f12_markLine : Nat → Int32) (f12_markHole : Nat → Int32) (f12_isOver : Nat → Int32) (sz : Nat) (p1 : Int32) (p2 : Int32) (i1 : Rg 0 40 v12_keptMany) (i2 : Rg 0 40 v12_done) (i3 : Rg 0 8 v12_sheets) (i4 : Rg 0 40 v12_holes) (i5 : Rg 0 40 v12_worms) (i6 : Rg 0 8 v12_laidMany) (i7 : Rg 0 8 v12_wanted) (i8 : Rg 0 20 v12_lines) (i9 : Rg 0 60 v12_marks) (i10 : Rg 0 40 v12_dots) (i11 : Rg 0 20 v12_places) (i12 : Rg 0 8 v12_maps) (i13 : Rg 0 120 v12_tapeMany) (i14 : Rg 0 6 v12_stories) (i15 : Rg 0 50 v12_bodies) (i16 : Rg 0 1000 v12_ran) (hf12_markLine : ∀ j : Nat, 0 ≤ (f12_markLine j).toInt ∧ (f12_markLine j).toInt ≤ 19) (hf12_markHole : ∀ j : Nat, 0 ≤ (f12_markHole j).toInt ∧ (f12_markHole j).toInt ≤ 39) (i17 : v12_done.toInt ≤ v12_keptMany.toInt) : Met l yX12_cameFirst wsX12_cameFirst ({ frames := 1, cells := 0, slots := 0, locals := 26 } : Room) (PcK D κ β [O12 a12 r12 v12_keptMany v12_done v12_sheets v12_holes v12_worms v12_laidMany v12_wanted v12_orderMany v12_firstOrder v12_lines v12_marks v12_dots v12_madeIn v12_bound v12_places v12_maps v12_tapeMany v12_stories v12_base v12_at v12_ends v12_fault v12_opened v12_bodies v12_ran v12_ownKind v12_ownNumber, (cI κ (r12 11) 40 f12_wormOf), (cI κ (r12 22) 20 f12_lineInk), (cI κ (r12 24) 60 f12_markLine), (cI κ (r12 25) 60 f12_markHole), (cZ κ (r12 26) 60 f12_isOver)] sz [.ref a12, .int p1, .int p2]) (QiK D (fun (r : Int32) (u : Unit) => r.toInt = 0 ∨ r.toInt = 1) (fun (u : Unit) => [O12 a12 r12 v12_keptMany v12_done v12_sheets v12_holes v12_worms v12_laidMany v12_wanted v12_orderMany v12_firstOrder v12_lines v12_marks v12_dots v12_madeIn v12_bound v12_places v12_maps v12_tapeMany v12_stories v12_base v12_at v12_ends v12_fault v12_opened v12_bodies v12_ran v12_ownKind v12_ownNumber, (cI κ (r12 11) 40 f12_wormOf), (cI κ (r12 22) 20 f12_lineInk), (cI κ (r12 24) 60 f12_markLine), (cI κ (r12 25) 60 f12_markHole), (cZ κ (r12 26) 60 f12_isOver)]) [O12 a12 r12 v12_keptMany v12_done v12_sheets v12_holes v12_worms v12_laidMany v12_wanted v12_orderMany v12_firstOrder v12_lines v12_marks v12_dots v12_madeIn v12_bound v12_places v12_maps v12_tapeMany v12_stories v12_base v12_at v12_ends v12_fault v12_opened v12_bodies v12_ran v12_ownKind v12_ownNumber, (cI κ (r12 11) 40 f12_wormOf), (cI κ (r12 22) 20 f12_lineInk), (cI κ (r12 24) 60 f12_markLine), (cI κ (r12 25) 60 f12_markHole), (cZ κ (r12 26) 60 f12_isOver)] sz) 0 0 (va_A [O12 a12 r12 v12_keptMany v12_done v12_sheets v12_holes v12_worms v12_laidMany v12_wanted v12_orderMany v12_firstOrder v12_lines v12_marks v12_dots v12_madeIn v12_bound v12_places v12_maps v12_tapeMany v12_stories v12_base v12_at v12_ends v12_fault v12_opened v12_bodies v12_ran v12_ownKind v12_ownNumber, (cI κ (r12 11) 40 f12_wormOf), (cI κ (r12 22) 20 f12_lineInk), (cI κ (r12 24) 60 f12_markLine), (cI κ (r12 25) 60 f12_markHole), (cZ κ (r12 26) 60 f12_isOver)] sz) := by
  refine ofK_z (cc := cX12_cameFirst) (maxL := 4) (own := RX12) (by decide) rfl rfl (Nat.le_of_ble_eq_true rfl) ?_
  intro p e s m args below meth c Q A ls hsz hx hb hml hts hown hK hA hAB hP hD hl ret
  have hS : va_S A s.heap s.heap [] := va_S.rf
  have hl : lv_has ls 4 [(0, .ref a12), (1, .int p1), (2, .int p2)] := hl
  have w0 := hts (.fieldLink RX12 160 "OlderSkinModel" "worms" "I") (List.mem_of_getElem? (i := 1) rfl)
  have w1 := (fun w h => List.mem_cons_of_mem _ (List.mem_append_right _ h) : ∀ w ∈ u_ws RX12 TX12 63, w ∈ wsX12_cameFirst)
  have l0 : (0 : Int32).toInt = 0 := by decide
  have l1 : ((-1) : Int32).toInt = -1 := by decide
  have l2 : (1 : Int32).toInt = 1 := by decide
  have i5 : 0 ≤ v12_worms.toInt ∧ v12_worms.toInt ≤ 40 := i5
  refine lv_iconst (v := 0) hx hb dX12_cameFirst_0 (by decide) ?_
  refine lv_istore_n (lv' := [(3, .int 0), (0, .ref a12), (1, .int p1), (2, .int p2)]) hx hb dX12_cameFirst_1 rfl hl (by decide) rfl (fun ls hl => ?_)
  have lp2 : ∀ (n2 : Nat) (k1 : Int32), (0 ≤ k1.toInt) → (v12_worms.toInt - k1.toInt).toNat < n2 → ∀ (H : Heap) (locs : List Loc), va_P D vwCl [O12 a12 r12 v12_keptMany v12_done v12_sheets v12_holes v12_worms v12_laidMany v12_wanted v12_orderMany v12_firstOrder v12_lines v12_marks v12_dots v12_madeIn v12_bound v12_places v12_maps v12_tapeMany v12_stories v12_base v12_at v12_ends v12_fault v12_opened v12_bodies v12_ran v12_ownKind v12_ownNumber, (cI κ (r12 11) 40 f12_wormOf), (cI κ (r12 22) 20 f12_lineInk), (cI κ (r12 24) 60 f12_markLine), (cI κ (r12 25) 60 f12_markHole), (cZ κ (r12 26) 60 f12_isOver)] H → va_D A [O12 a12 r12 v12_keptMany v12_done v12_sheets v12_holes v12_worms v12_laidMany v12_wanted v12_orderMany v12_firstOrder v12_lines v12_marks v12_dots v12_madeIn v12_bound v12_places v12_maps v12_tapeMany v12_stories v12_base v12_at v12_ends v12_fault v12_opened v12_bodies v12_ran v12_ownKind v12_ownNumber, (cI κ (r12 11) 40 f12_wormOf), (cI κ (r12 22) 20 f12_lineInk), (cI κ (r12 24) 60 f12_markLine), (cI κ (r12 25) 60 f12_markHole), (cZ κ (r12 26) 60 f12_isOver)] → va_S A s.heap H locs → ∀ ls : Array Slot, lv_has ls 4 [(3, .int k1), (0, .ref a12), (1, .int p1), (2, .int p2)] → W p l e ({ frames := 1, cells := 0, slots := 0, locals := 26 } : Room) s m args below meth c H locs 0 0 Q (F0 m 2 ls []) := by
    intro n2
    induction n2 with
    | zero =>
      intro k1 h2 m3
      exact absurd m3 (Nat.not_lt_zero _)
    | succ n2 ih2 =>
      intro k1 h2 m3 H locs hP hD hS ls hl
      refine lv_iload_n hx hb dX12_cameFirst_2 rfl (lv_at hl 0 rfl) ?_
      refine lv_aload_n hx hb dX12_cameFirst_3 rfl (lv_at hl 1 rfl) ?_
      refine va_get (D := D) (ci := 12) (v := .int v12_worms) (C := RX12) (T := TX12) (N := 63) hx hb hts w1 hown hK.1 hP 0 rfl rfl 13 (by decide) w0 (fun _ h9 => h9) rfl dX12_cameFirst_4 ?_
      refine lv_icmp_ge (tgt := 40) hx hb dX12_cameFirst_7 (by decide) (fun c4 => ?_) (fun c4 => ?_)
      · have c4 := ci_le c4
        refine lv_iconst (v := 0) hx hb dX12_cameFirst_40 (by decide) ?_
        have hpo : (0 : Int32).toInt = 0 ∨ (0 : Int32).toInt = 1 := (by omega)
        exact ret _ _ _ _ 0 () dX12_cameFirst_41 (by omega) hpo hP hD hS
      have c4 := ci_nle c4
      refine lv_aload_n hx hb dX12_cameFirst_10 rfl (lv_at hl 1 rfl) ?_
      refine lv_iload_n hx hb dX12_cameFirst_11 rfl (lv_at hl 0 rfl) ?_
      refine lv_iload_n hx hb dX12_cameFirst_12 rfl (lv_at hl 2 rfl) ?_
      refine lv_iconst (v := (-1)) hx hb dX12_cameFirst_13 (by decide) ?_
      refine lv_iconst (v := 1) hx hb dX12_cameFirst_14 (by decide) ?_
      refine kcm_i hA hAB hP hD hS [true, true, true, true, true, true] rfl (fun _ => rfl) (fun hPc hDc => va_runV (As := [.int k1, .int p1, .int (-1), .int 1]) (rest := []) ⟨hx, hb, hml, hown, hts⟩ (k_X12_has l D κ β a12 r12 v12_keptMany v12_done v12_sheets v12_holes v12_worms v12_laidMany v12_wanted v12_orderMany v12_firstOrder v12_lines v12_marks v12_dots v12_madeIn v12_bound v12_places v12_maps v12_tapeMany v12_stories v12_base v12_at v12_ends v12_fault v12_opened v12_bodies v12_ran v12_ownKind v12_ownNumber f12_wormOf f12_lineInk f12_markLine f12_markHole f12_isOver H.size k1 p1 (-1) 1 i1 i2 i3 i4 i5 i6 i7 i8 i9 i10 i11 i12 i13 i14 i15 i16 hf12_markLine hf12_markHole i17) (cwV 4 hts gX12_cameFirst_X12_has rfl rfl rfl (by decide +kernel) ⟨Nat.le_of_ble_eq_true rfl, Nat.le_of_ble_eq_true rfl⟩) (pk_V hK hS hAB hPc hDc 0 (ci := 12) rfl rfl rfl) rfl rfl hl.1 rfl (lv_room (Nat.le_of_ble_eq_true rfl)) dX12_cameFirst_15 ⟨Nat.le_of_ble_eq_true rfl, Nat.le_of_ble_eq_true rfl⟩) (fun x5 u6 H locs hw hPD hS => ?_)
      have h7 : x5.toInt = 0 ∨ x5.toInt = 1 := hw
      obtain ⟨hP, hD⟩ : PD D A [O12 a12 r12 v12_keptMany v12_done v12_sheets v12_holes v12_worms v12_laidMany v12_wanted v12_orderMany v12_firstOrder v12_lines v12_marks v12_dots v12_madeIn v12_bound v12_places v12_maps v12_tapeMany v12_stories v12_base v12_at v12_ends v12_fault v12_opened v12_bodies v12_ran v12_ownKind v12_ownNumber, (cI κ (r12 11) 40 f12_wormOf), (cI κ (r12 22) 20 f12_lineInk), (cI κ (r12 24) 60 f12_markLine), (cI κ (r12 25) 60 f12_markHole), (cZ κ (r12 26) 60 f12_isOver)] H := hPD
      refine lv_if_eq (tgt := 34) hx hb dX12_cameFirst_18 (by decide) (fun c8 => ?_) (fun c8 => ?_)
      · have c8 := ci_eq c8
        obtain ⟨x9, e10⟩ : ∃ y : Int32, y = k1 + 1 := ⟨_, rfl⟩
        refine lv_iinc (v := x9) (lv' := [(3, .int x9), (0, .ref a12), (1, .int p1), (2, .int p2)]) hx hb dX12_cameFirst_34 hl (k := 0) rfl (by rw [e10]; rfl) (by decide) rfl (fun ls hl => ?_)
        try have h11 : x9.toInt = k1.toInt + (1 : Int32).toInt := ci_add e10 (by omega) (by omega)
        refine lv_goto (tgt := 2) hx hb dX12_cameFirst_37 (by decide) ?_
        exact ih2 x9 (by omega) (by omega) _ _ hP hD hS _ hl
      have c8 := ci_ne c8
      refine lv_aload_n hx hb dX12_cameFirst_21 rfl (lv_at hl 1 rfl) ?_
      refine lv_iload_n hx hb dX12_cameFirst_22 rfl (lv_at hl 0 rfl) ?_
      refine lv_iload_n hx hb dX12_cameFirst_23 rfl (lv_at hl 3 rfl) ?_
      refine lv_iconst (v := (-1)) hx hb dX12_cameFirst_24 (by decide) ?_
      refine lv_iconst (v := 0) hx hb dX12_cameFirst_25 (by decide) ?_
      refine kcm_i hA hAB hP hD hS [true, true, true, true, true, true] rfl (fun _ => rfl) (fun hPc hDc => va_runV (As := [.int k1, .int p2, .int (-1), .int 0]) (rest := []) ⟨hx, hb, hml, hown, hts⟩ (k_X12_has l D κ β a12 r12 v12_keptMany v12_done v12_sheets v12_holes v12_worms v12_laidMany v12_wanted v12_orderMany v12_firstOrder v12_lines v12_marks v12_dots v12_madeIn v12_bound v12_places v12_maps v12_tapeMany v12_stories v12_base v12_at v12_ends v12_fault v12_opened v12_bodies v12_ran v12_ownKind v12_ownNumber f12_wormOf f12_lineInk f12_markLine f12_markHole f12_isOver H.size k1 p2 (-1) 0 i1 i2 i3 i4 i5 i6 i7 i8 i9 i10 i11 i12 i13 i14 i15 i16 hf12_markLine hf12_markHole i17) (cwV 4 hts gX12_cameFirst_X12_has rfl rfl rfl (by decide +kernel) ⟨Nat.le_of_ble_eq_true rfl, Nat.le_of_ble_eq_true rfl⟩) (pk_V hK hS hAB hPc hDc 0 (ci := 12) rfl rfl rfl) rfl rfl hl.1 rfl (lv_room (Nat.le_of_ble_eq_true rfl)) dX12_cameFirst_26 ⟨Nat.le_of_ble_eq_true rfl, Nat.le_of_ble_eq_true rfl⟩) (fun x12 u13 H locs hw hPD hS => ?_)
      have h14 : x12.toInt = 0 ∨ x12.toInt = 1 := hw
      obtain ⟨hP, hD⟩ : PD D A [O12 a12 r12 v12_keptMany v12_done v12_sheets v12_holes v12_worms v12_laidMany v12_wanted v12_orderMany v12_firstOrder v12_lines v12_marks v12_dots v12_madeIn v12_bound v12_places v12_maps v12_tapeMany v12_stories v12_base v12_at v12_ends v12_fault v12_opened v12_bodies v12_ran v12_ownKind v12_ownNumber, (cI κ (r12 11) 40 f12_wormOf), (cI κ (r12 22) 20 f12_lineInk), (cI κ (r12 24) 60 f12_markLine), (cI κ (r12 25) 60 f12_markHole), (cZ κ (r12 26) 60 f12_isOver)] H := hPD
      refine lv_if_eq (tgt := 34) hx hb dX12_cameFirst_29 (by decide) (fun c15 => ?_) (fun c15 => ?_)
      · have c15 := ci_eq c15
        obtain ⟨x16, e17⟩ : ∃ y : Int32, y = k1 + 1 := ⟨_, rfl⟩
        refine lv_iinc (v := x16) (lv' := [(3, .int x16), (0, .ref a12), (1, .int p1), (2, .int p2)]) hx hb dX12_cameFirst_34 hl (k := 0) rfl (by rw [e17]; rfl) (by decide) rfl (fun ls hl => ?_)
        try have h18 : x16.toInt = k1.toInt + (1 : Int32).toInt := ci_add e17 (by omega) (by omega)
        refine lv_goto (tgt := 2) hx hb dX12_cameFirst_37 (by decide) ?_
        exact ih2 x16 (by omega) (by omega) _ _ hP hD hS _ hl
      have c15 := ci_ne c15
      refine lv_iconst (v := 1) hx hb dX12_cameFirst_32 (by decide) ?_
      have hpo : (1 : Int32).toInt = 0 ∨ (1 : Int32).toInt = 1 := (by omega)
      exact ret _ _ _ _ 1 () dX12_cameFirst_33 (by omega) hpo hP hD hS
  exact lp2 ((v12_worms.toInt - (0 : Int32).toInt).toNat + 1) 0 (by omega) (by omega) _ _ hP hD hS _ hl
set_option maxHeartbeats 4000000 in
set_option maxRecDepth 100000 in
theorem k_X12_firstInk (l : Launch) (D : va_G) (κ : Nat → ClassId) (β : Nat) (a12 : Nat) (r12 : Nat → Nat) (v12_keptMany : Int32) (v12_done : Int32) (v12_sheets : Int32) (v12_holes : Int32) (v12_worms : Int32) (v12_laidMany : Int32) (v12_wanted : Int32) (v12_orderMany : Int32) (v12_firstOrder : Int32) (v12_lines : Int32) (v12_marks : Int32) (v12_dots : Int32) (v12_madeIn : Int32) (v12_bound : Int32) (v12_places : Int32) (v12_maps : Int32) (v12_tapeMany : Int32) (v12_stories : Int32) (v12_base : Int32) (v12_at : Int32) (v12_ends : Int32) (v12_fault : Int32) (v12_opened : Int32) (v12_bodies : Int32) (v12_ran : Int32) (v12_ownKind : Int32) (v12_ownNumber : Int32) (f12_wormOf : Nat → Int32) (f12_lineInk : Nat → Int32) (f12_markLine : Nat → Int32) (f12_markHole : Nat → Int32) (f12_isOver : Nat → Int32) (sz : Nat) (i1 : Rg 0 40 v12_keptMany) (i2 : Rg 0 40 v12_done) (i3 : Rg 0 8 v12_sheets) (i4 : Rg 0 40 v12_holes) (i5 : Rg 0 40 v12_worms) (i6 : Rg 0 8 v12_laidMany) (i7 : Rg 0 8 v12_wanted) (i8 : Rg 0 20 v12_lines) (i9 : Rg 0 60 v12_marks) (i10 : Rg 0 40 v12_dots) (i11 : Rg 0 20 v12_places) (i12 : Rg 0 8 v12_maps) (i13 : Rg 0 120 v12_tapeMany) (i14 : Rg 0 6 v12_stories) (i15 : Rg 0 50 v12_bodies) (i16 : Rg 0 1000 v12_ran) (hf12_markLine : ∀ j : Nat, 0 ≤ (f12_markLine j).toInt ∧ (f12_markLine j).toInt ≤ 19) (hf12_markHole : ∀ j : Nat, 0 ≤ (f12_markHole j).toInt ∧ (f12_markHole j).toInt ≤ 39) (i17 : v12_done.toInt ≤ v12_keptMany.toInt) : Met l yX12_firstInk wsX12_firstInk ({ frames := 2, cells := 0, slots := 0, locals := 49 } : Room) (PcK D κ β [O12 a12 r12 v12_keptMany v12_done v12_sheets v12_holes v12_worms v12_laidMany v12_wanted v12_orderMany v12_firstOrder v12_lines v12_marks v12_dots v12_madeIn v12_bound v12_places v12_maps v12_tapeMany v12_stories v12_base v12_at v12_ends v12_fault v12_opened v12_bodies v12_ran v12_ownKind v12_ownNumber, (cI κ (r12 11) 40 f12_wormOf), (cI κ (r12 22) 20 f12_lineInk), (cI κ (r12 24) 60 f12_markLine), (cI κ (r12 25) 60 f12_markHole), (cZ κ (r12 26) 60 f12_isOver)] sz [.ref a12]) (QiK D (fun (r : Int32) (u : Unit) => True) (fun (u : Unit) => [O12 a12 r12 v12_keptMany v12_done v12_sheets v12_holes v12_worms v12_laidMany v12_wanted v12_orderMany v12_firstOrder v12_lines v12_marks v12_dots v12_madeIn v12_bound v12_places v12_maps v12_tapeMany v12_stories v12_base v12_at v12_ends v12_fault v12_opened v12_bodies v12_ran v12_ownKind v12_ownNumber, (cI κ (r12 11) 40 f12_wormOf), (cI κ (r12 22) 20 f12_lineInk), (cI κ (r12 24) 60 f12_markLine), (cI κ (r12 25) 60 f12_markHole), (cZ κ (r12 26) 60 f12_isOver)]) [O12 a12 r12 v12_keptMany v12_done v12_sheets v12_holes v12_worms v12_laidMany v12_wanted v12_orderMany v12_firstOrder v12_lines v12_marks v12_dots v12_madeIn v12_bound v12_places v12_maps v12_tapeMany v12_stories v12_base v12_at v12_ends v12_fault v12_opened v12_bodies v12_ran v12_ownKind v12_ownNumber, (cI κ (r12 11) 40 f12_wormOf), (cI κ (r12 22) 20 f12_lineInk), (cI κ (r12 24) 60 f12_markLine), (cI κ (r12 25) 60 f12_markHole), (cZ κ (r12 26) 60 f12_isOver)] sz) 0 0 (va_A [O12 a12 r12 v12_keptMany v12_done v12_sheets v12_holes v12_worms v12_laidMany v12_wanted v12_orderMany v12_firstOrder v12_lines v12_marks v12_dots v12_madeIn v12_bound v12_places v12_maps v12_tapeMany v12_stories v12_base v12_at v12_ends v12_fault v12_opened v12_bodies v12_ran v12_ownKind v12_ownNumber, (cI κ (r12 11) 40 f12_wormOf), (cI κ (r12 22) 20 f12_lineInk), (cI κ (r12 24) 60 f12_markLine), (cI κ (r12 25) 60 f12_markHole), (cZ κ (r12 26) 60 f12_isOver)] sz) := by
  refine ofK_i (cc := cX12_firstInk) (maxL := 4) (own := RX12) (by decide) rfl rfl (Nat.le_of_ble_eq_true rfl) ?_
  intro p e s m args below meth c Q A ls hsz hx hb hml hts hown hK hA hAB hP hD hl ret
  have hS : va_S A s.heap s.heap [] := va_S.rf
  have hl : lv_has ls 4 [(0, .ref a12)] := hl
  have w0 := hts (.fieldLink RX12 200 "OlderSkinModel" "lines" "I") (List.mem_of_getElem? (i := 1) rfl)
  have w1 := (fun w h => List.mem_cons_of_mem _ (List.mem_append_right _ h) : ∀ w ∈ u_ws RX12 TX12 63, w ∈ wsX12_firstInk)
  have w2 := hts (.fieldLink RX12 46 "OlderSkinModel" "lineInk" "[I") (List.mem_of_getElem? (i := 2) rfl)
  have l0 : (0 : Int32).toInt = 0 := by decide
  have l1 : (6 : Int32).toInt = 6 := by decide
  have l2 : ((-2) : Int32).toInt = -2 := by decide
  have l3 : (1 : Int32).toInt = 1 := by decide
  have i8 : 0 ≤ v12_lines.toInt ∧ v12_lines.toInt ≤ 20 := i8
  refine lv_iconst (v := 0) hx hb dX12_firstInk_0 (by decide) ?_
  refine lv_istore_n (lv' := [(1, .int 0), (0, .ref a12)]) hx hb dX12_firstInk_1 rfl hl (by decide) rfl (fun ls hl => ?_)
  have lp2 : ∀ (n2 : Nat) (k1 : Int32), (0 ≤ k1.toInt) → (6 - k1.toInt).toNat < n2 → ∀ (H : Heap) (locs : List Loc), va_P D vwCl [O12 a12 r12 v12_keptMany v12_done v12_sheets v12_holes v12_worms v12_laidMany v12_wanted v12_orderMany v12_firstOrder v12_lines v12_marks v12_dots v12_madeIn v12_bound v12_places v12_maps v12_tapeMany v12_stories v12_base v12_at v12_ends v12_fault v12_opened v12_bodies v12_ran v12_ownKind v12_ownNumber, (cI κ (r12 11) 40 f12_wormOf), (cI κ (r12 22) 20 f12_lineInk), (cI κ (r12 24) 60 f12_markLine), (cI κ (r12 25) 60 f12_markHole), (cZ κ (r12 26) 60 f12_isOver)] H → va_D A [O12 a12 r12 v12_keptMany v12_done v12_sheets v12_holes v12_worms v12_laidMany v12_wanted v12_orderMany v12_firstOrder v12_lines v12_marks v12_dots v12_madeIn v12_bound v12_places v12_maps v12_tapeMany v12_stories v12_base v12_at v12_ends v12_fault v12_opened v12_bodies v12_ran v12_ownKind v12_ownNumber, (cI κ (r12 11) 40 f12_wormOf), (cI κ (r12 22) 20 f12_lineInk), (cI κ (r12 24) 60 f12_markLine), (cI κ (r12 25) 60 f12_markHole), (cZ κ (r12 26) 60 f12_isOver)] → va_S A s.heap H locs → ∀ ls : Array Slot, lv_has ls 4 [(1, .int k1), (0, .ref a12)] → W p l e ({ frames := 2, cells := 0, slots := 0, locals := 49 } : Room) s m args below meth c H locs 0 0 Q (F0 m 2 ls []) := by
    intro n2
    induction n2 with
    | zero =>
      intro k1 h2 m3
      exact absurd m3 (Nat.not_lt_zero _)
    | succ n2 ih2 =>
      intro k1 h2 m3 H locs hP hD hS ls hl
      refine lv_iload_n hx hb dX12_firstInk_2 rfl (lv_at hl 0 rfl) ?_
      refine lv_bipush (v := 6) hx hb dX12_firstInk_3 (by decide) ?_
      refine lv_icmp_ge (tgt := 96) hx hb dX12_firstInk_5 (by decide) (fun c4 => ?_) (fun c4 => ?_)
      · have c4 := ci_le c4
        refine lv_bipush (v := (-2)) hx hb dX12_firstInk_96 (by decide) ?_
        exact ret _ _ _ _ (-2) () dX12_firstInk_98 trivial hP hD hS
      have c4 := ci_nle c4
      refine lv_iconst (v := 0) hx hb dX12_firstInk_8 (by decide) ?_
      refine lv_istore_n (lv' := [(2, .int 0), (1, .int k1), (0, .ref a12)]) hx hb dX12_firstInk_9 rfl hl (by decide) rfl (fun ls hl => ?_)
      refine lv_iconst (v := 0) hx hb dX12_firstInk_10 (by decide) ?_
      refine lv_istore_n (lv' := [(3, .int 0), (2, .int 0), (1, .int k1), (0, .ref a12)]) hx hb dX12_firstInk_11 rfl hl (by decide) rfl (fun ls hl => ?_)
      have lp12 : ∀ (n12 : Nat) (k5 : Int32) (k6 : Int32), (0 ≤ k5.toInt) → (v12_lines.toInt - k5.toInt).toNat < n12 → ∀ (H : Heap) (locs : List Loc), va_P D vwCl [O12 a12 r12 v12_keptMany v12_done v12_sheets v12_holes v12_worms v12_laidMany v12_wanted v12_orderMany v12_firstOrder v12_lines v12_marks v12_dots v12_madeIn v12_bound v12_places v12_maps v12_tapeMany v12_stories v12_base v12_at v12_ends v12_fault v12_opened v12_bodies v12_ran v12_ownKind v12_ownNumber, (cI κ (r12 11) 40 f12_wormOf), (cI κ (r12 22) 20 f12_lineInk), (cI κ (r12 24) 60 f12_markLine), (cI κ (r12 25) 60 f12_markHole), (cZ κ (r12 26) 60 f12_isOver)] H → va_D A [O12 a12 r12 v12_keptMany v12_done v12_sheets v12_holes v12_worms v12_laidMany v12_wanted v12_orderMany v12_firstOrder v12_lines v12_marks v12_dots v12_madeIn v12_bound v12_places v12_maps v12_tapeMany v12_stories v12_base v12_at v12_ends v12_fault v12_opened v12_bodies v12_ran v12_ownKind v12_ownNumber, (cI κ (r12 11) 40 f12_wormOf), (cI κ (r12 22) 20 f12_lineInk), (cI κ (r12 24) 60 f12_markLine), (cI κ (r12 25) 60 f12_markHole), (cZ κ (r12 26) 60 f12_isOver)] → va_S A s.heap H locs → ∀ ls : Array Slot, lv_has ls 4 [(3, .int k5), (2, .int k6), (1, .int k1), (0, .ref a12)] → W p l e ({ frames := 2, cells := 0, slots := 0, locals := 49 } : Room) s m args below meth c H locs 0 0 Q (F0 m 12 ls []) := by
        intro n12
        induction n12 with
        | zero =>
          intro k5 k6 h7 m8
          exact absurd m8 (Nat.not_lt_zero _)
        | succ n12 ih12 =>
          intro k5 k6 h7 m8 H locs hP hD hS ls hl
          refine lv_iload_n hx hb dX12_firstInk_12 rfl (lv_at hl 0 rfl) ?_
          refine lv_aload_n hx hb dX12_firstInk_13 rfl (lv_at hl 3 rfl) ?_
          refine va_get (D := D) (ci := 12) (v := .int v12_lines) (C := RX12) (T := TX12) (N := 63) hx hb hts w1 hown hK.1 hP 0 rfl rfl 20 (by decide) w0 (fun _ h9 => h9) rfl dX12_firstInk_14 ?_
          refine lv_icmp_ge (tgt := 46) hx hb dX12_firstInk_17 (by decide) (fun c9 => ?_) (fun c9 => ?_)
          · have c9 := ci_le c9
            refine lv_iconst (v := 0) hx hb dX12_firstInk_46 (by decide) ?_
            refine lv_istore_n (lv' := [(3, .int 0), (2, .int k6), (1, .int k1), (0, .ref a12)]) hx hb dX12_firstInk_47 rfl hl (by decide) rfl (fun ls hl => ?_)
            have lp48 : ∀ (n48 : Nat) (k10 : Int32) (k11 : Int32), (0 ≤ k10.toInt) → (6 - k10.toInt).toNat < n48 → ∀ (H : Heap) (locs : List Loc), va_P D vwCl [O12 a12 r12 v12_keptMany v12_done v12_sheets v12_holes v12_worms v12_laidMany v12_wanted v12_orderMany v12_firstOrder v12_lines v12_marks v12_dots v12_madeIn v12_bound v12_places v12_maps v12_tapeMany v12_stories v12_base v12_at v12_ends v12_fault v12_opened v12_bodies v12_ran v12_ownKind v12_ownNumber, (cI κ (r12 11) 40 f12_wormOf), (cI κ (r12 22) 20 f12_lineInk), (cI κ (r12 24) 60 f12_markLine), (cI κ (r12 25) 60 f12_markHole), (cZ κ (r12 26) 60 f12_isOver)] H → va_D A [O12 a12 r12 v12_keptMany v12_done v12_sheets v12_holes v12_worms v12_laidMany v12_wanted v12_orderMany v12_firstOrder v12_lines v12_marks v12_dots v12_madeIn v12_bound v12_places v12_maps v12_tapeMany v12_stories v12_base v12_at v12_ends v12_fault v12_opened v12_bodies v12_ran v12_ownKind v12_ownNumber, (cI κ (r12 11) 40 f12_wormOf), (cI κ (r12 22) 20 f12_lineInk), (cI κ (r12 24) 60 f12_markLine), (cI κ (r12 25) 60 f12_markHole), (cZ κ (r12 26) 60 f12_isOver)] → va_S A s.heap H locs → ∀ ls : Array Slot, lv_has ls 4 [(3, .int k10), (2, .int k11), (1, .int k1), (0, .ref a12)] → W p l e ({ frames := 2, cells := 0, slots := 0, locals := 49 } : Room) s m args below meth c H locs 0 0 Q (F0 m 48 ls []) := by
              intro n48
              induction n48 with
              | zero =>
                intro k10 k11 h12 m13
                exact absurd m13 (Nat.not_lt_zero _)
              | succ n48 ih48 =>
                intro k10 k11 h12 m13 H locs hP hD hS ls hl
                refine lv_iload_n hx hb dX12_firstInk_48 rfl (lv_at hl 0 rfl) ?_
                refine lv_bipush (v := 6) hx hb dX12_firstInk_49 (by decide) ?_
                refine lv_icmp_ge (tgt := 84) hx hb dX12_firstInk_51 (by decide) (fun c14 => ?_) (fun c14 => ?_)
                · have c14 := ci_le c14
                  refine lv_iload_n hx hb dX12_firstInk_84 rfl (lv_at hl 1 rfl) ?_
                  refine lv_if_eq (tgt := 90) hx hb dX12_firstInk_85 (by decide) (fun c15 => ?_) (fun c15 => ?_)
                  · have c15 := ci_eq c15
                    obtain ⟨x16, e17⟩ : ∃ y : Int32, y = k1 + 1 := ⟨_, rfl⟩
                    refine lv_iinc (v := x16) (lv' := [(1, .int x16), (3, .int k10), (2, .int k11), (0, .ref a12)]) hx hb dX12_firstInk_90 hl (k := 2) rfl (by rw [e17]; rfl) (by decide) rfl (fun ls hl => ?_)
                    try have h18 : x16.toInt = k1.toInt + (1 : Int32).toInt := ci_add e17 (by omega) (by omega)
                    refine lv_goto (tgt := 2) hx hb dX12_firstInk_93 (by decide) ?_
                    exact ih2 x16 (by omega) (by omega) _ _ hP hD hS _ (lv_sub hl [0, 3] rfl)
                  have c15 := ci_ne c15
                  refine lv_iload_n hx hb dX12_firstInk_88 rfl (lv_at hl 2 rfl) ?_
                  exact ret _ _ _ _ k1 () dX12_firstInk_89 trivial hP hD hS
                have c14 := ci_nle c14
                refine lv_iload_n hx hb dX12_firstInk_54 rfl (lv_at hl 1 rfl) ?_
                refine lv_if_eq (tgt := 76) hx hb dX12_firstInk_55 (by decide) (fun c19 => ?_) (fun c19 => ?_)
                · have c19 := ci_eq c19
                  refine lv_iconst (v := 0) hx hb dX12_firstInk_76 (by decide) ?_
                  refine lv_istore_n (lv' := [(2, .int 0), (3, .int k10), (1, .int k1), (0, .ref a12)]) hx hb dX12_firstInk_77 rfl hl (by decide) rfl (fun ls hl => ?_)
                  obtain ⟨x20, e21⟩ : ∃ y : Int32, y = k10 + 1 := ⟨_, rfl⟩
                  refine lv_iinc (v := x20) (lv' := [(3, .int x20), (2, .int 0), (1, .int k1), (0, .ref a12)]) hx hb dX12_firstInk_78 hl (k := 1) rfl (by rw [e21]; rfl) (by decide) rfl (fun ls hl => ?_)
                  try have h22 : x20.toInt = k10.toInt + (1 : Int32).toInt := ci_add e21 (by omega) (by omega)
                  refine lv_goto (tgt := 48) hx hb dX12_firstInk_81 (by decide) ?_
                  exact ih48 x20 0 (by omega) (by omega) _ _ hP hD hS _ hl
                have c19 := ci_ne c19
                refine lv_iload_n hx hb dX12_firstInk_58 rfl (lv_at hl 0 rfl) ?_
                refine lv_iload_n hx hb dX12_firstInk_59 rfl (lv_at hl 2 rfl) ?_
                refine lv_icmp_eq (tgt := 72) hx hb dX12_firstInk_60 (by decide) (fun c23 => ?_) (fun c23 => ?_)
                · have c23 := ci_eq c23
                  refine lv_iconst (v := 1) hx hb dX12_firstInk_72 (by decide) ?_
                  refine lv_goto (tgt := 77) hx hb dX12_firstInk_73 (by decide) ?_
                  refine lv_istore_n (lv' := [(2, .int 1), (3, .int k10), (1, .int k1), (0, .ref a12)]) hx hb dX12_firstInk_77 rfl hl (by decide) rfl (fun ls hl => ?_)
                  obtain ⟨x24, e25⟩ : ∃ y : Int32, y = k10 + 1 := ⟨_, rfl⟩
                  refine lv_iinc (v := x24) (lv' := [(3, .int x24), (2, .int 1), (1, .int k1), (0, .ref a12)]) hx hb dX12_firstInk_78 hl (k := 1) rfl (by rw [e25]; rfl) (by decide) rfl (fun ls hl => ?_)
                  try have h26 : x24.toInt = k10.toInt + (1 : Int32).toInt := ci_add e25 (by omega) (by omega)
                  refine lv_goto (tgt := 48) hx hb dX12_firstInk_81 (by decide) ?_
                  exact ih48 x24 1 (by omega) (by omega) _ _ hP hD hS _ hl
                have c23 := ci_ne c23
                refine lv_aload_n hx hb dX12_firstInk_63 rfl (lv_at hl 3 rfl) ?_
                refine lv_iload_n hx hb dX12_firstInk_64 rfl (lv_at hl 0 rfl) ?_
                refine lv_iload_n hx hb dX12_firstInk_65 rfl (lv_at hl 2 rfl) ?_
                refine kcm_i hA hAB hP hD hS [true, true, true, true, true, true] rfl (fun _ => rfl) (fun hPc hDc => va_runV (As := [.int k10, .int k1]) (rest := []) ⟨hx, hb, hml, hown, hts⟩ (k_X12_cameFirst l D κ β a12 r12 v12_keptMany v12_done v12_sheets v12_holes v12_worms v12_laidMany v12_wanted v12_orderMany v12_firstOrder v12_lines v12_marks v12_dots v12_madeIn v12_bound v12_places v12_maps v12_tapeMany v12_stories v12_base v12_at v12_ends v12_fault v12_opened v12_bodies v12_ran v12_ownKind v12_ownNumber f12_wormOf f12_lineInk f12_markLine f12_markHole f12_isOver H.size k10 k1 i1 i2 i3 i4 i5 i6 i7 i8 i9 i10 i11 i12 i13 i14 i15 i16 hf12_markLine hf12_markHole i17) (cwV 2 hts gX12_firstInk_X12_cameFirst rfl rfl rfl (by decide +kernel) ⟨Nat.le_of_ble_eq_true rfl, Nat.le_of_ble_eq_true rfl⟩) (pk_V hK hS hAB hPc hDc 0 (ci := 12) rfl rfl rfl) rfl rfl hl.1 rfl (lv_room (Nat.le_of_ble_eq_true rfl)) dX12_firstInk_66 ⟨Nat.le_of_ble_eq_true rfl, Nat.le_of_ble_eq_true rfl⟩) (fun x27 u28 H locs hw hPD hS => ?_)
                have h29 : x27.toInt = 0 ∨ x27.toInt = 1 := hw
                obtain ⟨hP, hD⟩ : PD D A [O12 a12 r12 v12_keptMany v12_done v12_sheets v12_holes v12_worms v12_laidMany v12_wanted v12_orderMany v12_firstOrder v12_lines v12_marks v12_dots v12_madeIn v12_bound v12_places v12_maps v12_tapeMany v12_stories v12_base v12_at v12_ends v12_fault v12_opened v12_bodies v12_ran v12_ownKind v12_ownNumber, (cI κ (r12 11) 40 f12_wormOf), (cI κ (r12 22) 20 f12_lineInk), (cI κ (r12 24) 60 f12_markLine), (cI κ (r12 25) 60 f12_markHole), (cZ κ (r12 26) 60 f12_isOver)] H := hPD
                refine lv_if_ne (tgt := 76) hx hb dX12_firstInk_69 (by decide) (fun c30 => ?_) (fun c30 => ?_)
                · have c30 := ci_ne c30
                  refine lv_iconst (v := 0) hx hb dX12_firstInk_76 (by decide) ?_
                  refine lv_istore_n (lv' := [(2, .int 0), (3, .int k10), (1, .int k1), (0, .ref a12)]) hx hb dX12_firstInk_77 rfl hl (by decide) rfl (fun ls hl => ?_)
                  obtain ⟨x31, e32⟩ : ∃ y : Int32, y = k10 + 1 := ⟨_, rfl⟩
                  refine lv_iinc (v := x31) (lv' := [(3, .int x31), (2, .int 0), (1, .int k1), (0, .ref a12)]) hx hb dX12_firstInk_78 hl (k := 1) rfl (by rw [e32]; rfl) (by decide) rfl (fun ls hl => ?_)
                  try have h33 : x31.toInt = k10.toInt + (1 : Int32).toInt := ci_add e32 (by omega) (by omega)
                  refine lv_goto (tgt := 48) hx hb dX12_firstInk_81 (by decide) ?_
                  exact ih48 x31 0 (by omega) (by omega) _ _ hP hD hS _ hl
                have c30 := ci_eq c30
                refine lv_iconst (v := 1) hx hb dX12_firstInk_72 (by decide) ?_
                refine lv_goto (tgt := 77) hx hb dX12_firstInk_73 (by decide) ?_
                refine lv_istore_n (lv' := [(2, .int 1), (3, .int k10), (1, .int k1), (0, .ref a12)]) hx hb dX12_firstInk_77 rfl hl (by decide) rfl (fun ls hl => ?_)
                obtain ⟨x34, e35⟩ : ∃ y : Int32, y = k10 + 1 := ⟨_, rfl⟩
                refine lv_iinc (v := x34) (lv' := [(3, .int x34), (2, .int 1), (1, .int k1), (0, .ref a12)]) hx hb dX12_firstInk_78 hl (k := 1) rfl (by rw [e35]; rfl) (by decide) rfl (fun ls hl => ?_)
                try have h36 : x34.toInt = k10.toInt + (1 : Int32).toInt := ci_add e35 (by omega) (by omega)
                refine lv_goto (tgt := 48) hx hb dX12_firstInk_81 (by decide) ?_
                exact ih48 x34 1 (by omega) (by omega) _ _ hP hD hS _ hl
            exact lp48 ((6 - (0 : Int32).toInt).toNat + 1) 0 k6 (by omega) (by omega) _ _ hP hD hS _ hl
          have c9 := ci_nle c9
          refine lv_iload_n hx hb dX12_firstInk_20 rfl (lv_at hl 1 rfl) ?_
          refine lv_if_ne (tgt := 34) hx hb dX12_firstInk_21 (by decide) (fun c37 => ?_) (fun c37 => ?_)
          · have c37 := ci_ne c37
            refine lv_iconst (v := 1) hx hb dX12_firstInk_34 (by decide) ?_
            refine lv_goto (tgt := 39) hx hb dX12_firstInk_35 (by decide) ?_
            refine lv_istore_n (lv' := [(2, .int 1), (3, .int k5), (1, .int k1), (0, .ref a12)]) hx hb dX12_firstInk_39 rfl hl (by decide) rfl (fun ls hl => ?_)
            obtain ⟨x38, e39⟩ : ∃ y : Int32, y = k5 + 1 := ⟨_, rfl⟩
            refine lv_iinc (v := x38) (lv' := [(3, .int x38), (2, .int 1), (1, .int k1), (0, .ref a12)]) hx hb dX12_firstInk_40 hl (k := 1) rfl (by rw [e39]; rfl) (by decide) rfl (fun ls hl => ?_)
            try have h40 : x38.toInt = k5.toInt + (1 : Int32).toInt := ci_add e39 (by omega) (by omega)
            refine lv_goto (tgt := 12) hx hb dX12_firstInk_43 (by decide) ?_
            exact ih12 x38 1 (by omega) (by omega) _ _ hP hD hS _ hl
          have c37 := ci_eq c37
          refine lv_aload_n hx hb dX12_firstInk_24 rfl (lv_at hl 3 rfl) ?_
          refine va_get (D := D) (ci := 12) (v := .ref (r12 22)) (C := RX12) (T := TX12) (N := 63) hx hb hts w1 hown hK.1 hP 0 rfl rfl 22 (by decide) w2 (fun _ h9 => h9) rfl dX12_firstInk_25 ?_
          refine lv_iload_n hx hb dX12_firstInk_28 rfl (lv_at hl 0 rfl) ?_
          refine va_iald hx hb hK.1 hP 2 1 rfl rfl (i := k5) (ix (by omega) (by omega)) dX12_firstInk_29 ?_
          refine lv_topi (fun x41 e42 => ?_)
          refine lv_iload_n hx hb dX12_firstInk_30 rfl (lv_at hl 2 rfl) ?_
          refine lv_icmp_ne (tgt := 38) hx hb dX12_firstInk_31 (by decide) (fun c43 => ?_) (fun c43 => ?_)
          · have c43 := ci_ne c43
            refine lv_iconst (v := 0) hx hb dX12_firstInk_38 (by decide) ?_
            refine lv_istore_n (lv' := [(2, .int 0), (3, .int k5), (1, .int k1), (0, .ref a12)]) hx hb dX12_firstInk_39 rfl hl (by decide) rfl (fun ls hl => ?_)
            obtain ⟨x44, e45⟩ : ∃ y : Int32, y = k5 + 1 := ⟨_, rfl⟩
            refine lv_iinc (v := x44) (lv' := [(3, .int x44), (2, .int 0), (1, .int k1), (0, .ref a12)]) hx hb dX12_firstInk_40 hl (k := 1) rfl (by rw [e45]; rfl) (by decide) rfl (fun ls hl => ?_)
            try have h46 : x44.toInt = k5.toInt + (1 : Int32).toInt := ci_add e45 (by omega) (by omega)
            refine lv_goto (tgt := 12) hx hb dX12_firstInk_43 (by decide) ?_
            exact ih12 x44 0 (by omega) (by omega) _ _ hP hD hS _ hl
          have c43 := ci_eq c43
          refine lv_iconst (v := 1) hx hb dX12_firstInk_34 (by decide) ?_
          refine lv_goto (tgt := 39) hx hb dX12_firstInk_35 (by decide) ?_
          refine lv_istore_n (lv' := [(2, .int 1), (3, .int k5), (1, .int k1), (0, .ref a12)]) hx hb dX12_firstInk_39 rfl hl (by decide) rfl (fun ls hl => ?_)
          obtain ⟨x47, e48⟩ : ∃ y : Int32, y = k5 + 1 := ⟨_, rfl⟩
          refine lv_iinc (v := x47) (lv' := [(3, .int x47), (2, .int 1), (1, .int k1), (0, .ref a12)]) hx hb dX12_firstInk_40 hl (k := 1) rfl (by rw [e48]; rfl) (by decide) rfl (fun ls hl => ?_)
          try have h49 : x47.toInt = k5.toInt + (1 : Int32).toInt := ci_add e48 (by omega) (by omega)
          refine lv_goto (tgt := 12) hx hb dX12_firstInk_43 (by decide) ?_
          exact ih12 x47 1 (by omega) (by omega) _ _ hP hD hS _ hl
      exact lp12 ((v12_lines.toInt - (0 : Int32).toInt).toNat + 1) 0 0 (by omega) (by omega) _ _ hP hD hS _ hl
  exact lp2 ((6 - (0 : Int32).toInt).toNat + 1) 0 (by omega) (by omega) _ _ hP hD hS _ hl
set_option maxHeartbeats 4000000 in
set_option maxRecDepth 100000 in
theorem k_X12_ringOf (l : Launch) (D : va_G) (κ : Nat → ClassId) (β : Nat) (a12 : Nat) (r12 : Nat → Nat) (v12_keptMany : Int32) (v12_done : Int32) (v12_sheets : Int32) (v12_holes : Int32) (v12_worms : Int32) (v12_laidMany : Int32) (v12_wanted : Int32) (v12_orderMany : Int32) (v12_firstOrder : Int32) (v12_lines : Int32) (v12_marks : Int32) (v12_dots : Int32) (v12_madeIn : Int32) (v12_bound : Int32) (v12_places : Int32) (v12_maps : Int32) (v12_tapeMany : Int32) (v12_stories : Int32) (v12_base : Int32) (v12_at : Int32) (v12_ends : Int32) (v12_fault : Int32) (v12_opened : Int32) (v12_bodies : Int32) (v12_ran : Int32) (v12_ownKind : Int32) (v12_ownNumber : Int32) (f12_wormOf : Nat → Int32) (f12_lineInk : Nat → Int32) (f12_markLine : Nat → Int32) (f12_markHole : Nat → Int32) (f12_isOver : Nat → Int32) (sz : Nat) (i1 : Rg 0 40 v12_keptMany) (i2 : Rg 0 40 v12_done) (i3 : Rg 0 8 v12_sheets) (i4 : Rg 0 40 v12_holes) (i5 : Rg 0 40 v12_worms) (i6 : Rg 0 8 v12_laidMany) (i7 : Rg 0 8 v12_wanted) (i8 : Rg 0 20 v12_lines) (i9 : Rg 0 60 v12_marks) (i10 : Rg 0 40 v12_dots) (i11 : Rg 0 20 v12_places) (i12 : Rg 0 8 v12_maps) (i13 : Rg 0 120 v12_tapeMany) (i14 : Rg 0 6 v12_stories) (i15 : Rg 0 50 v12_bodies) (i16 : Rg 0 1000 v12_ran) (hf12_markLine : ∀ j : Nat, 0 ≤ (f12_markLine j).toInt ∧ (f12_markLine j).toInt ≤ 19) (hf12_markHole : ∀ j : Nat, 0 ≤ (f12_markHole j).toInt ∧ (f12_markHole j).toInt ≤ 39) (i17 : v12_done.toInt ≤ v12_keptMany.toInt) : Met l yX12_ringOf wsX12_ringOf ({ frames := 2, cells := 0, slots := 0, locals := 49 } : Room) (PcK D κ β [O12 a12 r12 v12_keptMany v12_done v12_sheets v12_holes v12_worms v12_laidMany v12_wanted v12_orderMany v12_firstOrder v12_lines v12_marks v12_dots v12_madeIn v12_bound v12_places v12_maps v12_tapeMany v12_stories v12_base v12_at v12_ends v12_fault v12_opened v12_bodies v12_ran v12_ownKind v12_ownNumber, (cI κ (r12 11) 40 f12_wormOf), (cI κ (r12 22) 20 f12_lineInk), (cI κ (r12 24) 60 f12_markLine), (cI κ (r12 25) 60 f12_markHole), (cZ κ (r12 26) 60 f12_isOver)] sz [.ref a12]) (QiK D (fun (r : Int32) (u : Unit) => True) (fun (u : Unit) => [O12 a12 r12 v12_keptMany v12_done v12_sheets v12_holes v12_worms v12_laidMany v12_wanted v12_orderMany v12_firstOrder v12_lines v12_marks v12_dots v12_madeIn v12_bound v12_places v12_maps v12_tapeMany v12_stories v12_base v12_at v12_ends v12_fault v12_opened v12_bodies v12_ran v12_ownKind v12_ownNumber, (cI κ (r12 11) 40 f12_wormOf), (cI κ (r12 22) 20 f12_lineInk), (cI κ (r12 24) 60 f12_markLine), (cI κ (r12 25) 60 f12_markHole), (cZ κ (r12 26) 60 f12_isOver)]) [O12 a12 r12 v12_keptMany v12_done v12_sheets v12_holes v12_worms v12_laidMany v12_wanted v12_orderMany v12_firstOrder v12_lines v12_marks v12_dots v12_madeIn v12_bound v12_places v12_maps v12_tapeMany v12_stories v12_base v12_at v12_ends v12_fault v12_opened v12_bodies v12_ran v12_ownKind v12_ownNumber, (cI κ (r12 11) 40 f12_wormOf), (cI κ (r12 22) 20 f12_lineInk), (cI κ (r12 24) 60 f12_markLine), (cI κ (r12 25) 60 f12_markHole), (cZ κ (r12 26) 60 f12_isOver)] sz) 0 0 (va_A [O12 a12 r12 v12_keptMany v12_done v12_sheets v12_holes v12_worms v12_laidMany v12_wanted v12_orderMany v12_firstOrder v12_lines v12_marks v12_dots v12_madeIn v12_bound v12_places v12_maps v12_tapeMany v12_stories v12_base v12_at v12_ends v12_fault v12_opened v12_bodies v12_ran v12_ownKind v12_ownNumber, (cI κ (r12 11) 40 f12_wormOf), (cI κ (r12 22) 20 f12_lineInk), (cI κ (r12 24) 60 f12_markLine), (cI κ (r12 25) 60 f12_markHole), (cZ κ (r12 26) 60 f12_isOver)] sz) := by
  refine ofK_i (cc := cX12_ringOf) (maxL := 3) (own := RX12) (by decide) rfl rfl (Nat.le_of_ble_eq_true rfl) ?_
  intro p e s m args below meth c Q A ls hsz hx hb hml hts hown hK hA hAB hP hD hl ret
  have hS : va_S A s.heap s.heap [] := va_S.rf
  have hl : lv_has ls 3 [(0, .ref a12)] := hl
  have l0 : (0 : Int32).toInt = 0 := by decide
  have l1 : (6 : Int32).toInt = 6 := by decide
  have l2 : ((-2) : Int32).toInt = -2 := by decide
  have l3 : (1 : Int32).toInt = 1 := by decide
  have l4 : (10 : Int32).toInt = 10 := by decide
  refine lv_iconst (v := 0) hx hb dX12_ringOf_0 (by decide) ?_
  refine lv_istore_n (lv' := [(1, .int 0), (0, .ref a12)]) hx hb dX12_ringOf_1 rfl hl (by decide) rfl (fun ls hl => ?_)
  have lp2 : ∀ (n2 : Nat) (k1 : Int32), (0 ≤ k1.toInt) → (6 - k1.toInt).toNat < n2 → ∀ (H : Heap) (locs : List Loc), va_P D vwCl [O12 a12 r12 v12_keptMany v12_done v12_sheets v12_holes v12_worms v12_laidMany v12_wanted v12_orderMany v12_firstOrder v12_lines v12_marks v12_dots v12_madeIn v12_bound v12_places v12_maps v12_tapeMany v12_stories v12_base v12_at v12_ends v12_fault v12_opened v12_bodies v12_ran v12_ownKind v12_ownNumber, (cI κ (r12 11) 40 f12_wormOf), (cI κ (r12 22) 20 f12_lineInk), (cI κ (r12 24) 60 f12_markLine), (cI κ (r12 25) 60 f12_markHole), (cZ κ (r12 26) 60 f12_isOver)] H → va_D A [O12 a12 r12 v12_keptMany v12_done v12_sheets v12_holes v12_worms v12_laidMany v12_wanted v12_orderMany v12_firstOrder v12_lines v12_marks v12_dots v12_madeIn v12_bound v12_places v12_maps v12_tapeMany v12_stories v12_base v12_at v12_ends v12_fault v12_opened v12_bodies v12_ran v12_ownKind v12_ownNumber, (cI κ (r12 11) 40 f12_wormOf), (cI κ (r12 22) 20 f12_lineInk), (cI κ (r12 24) 60 f12_markLine), (cI κ (r12 25) 60 f12_markHole), (cZ κ (r12 26) 60 f12_isOver)] → va_S A s.heap H locs → ∀ ls : Array Slot, lv_has ls 3 [(1, .int k1), (0, .ref a12)] → W p l e ({ frames := 2, cells := 0, slots := 0, locals := 49 } : Room) s m args below meth c H locs 0 0 Q (F0 m 2 ls []) := by
    intro n2
    induction n2 with
    | zero =>
      intro k1 h2 m3
      exact absurd m3 (Nat.not_lt_zero _)
    | succ n2 ih2 =>
      intro k1 h2 m3 H locs hP hD hS ls hl
      refine lv_iload_n hx hb dX12_ringOf_2 rfl (lv_at hl 0 rfl) ?_
      refine lv_bipush (v := 6) hx hb dX12_ringOf_3 (by decide) ?_
      refine lv_icmp_ge (tgt := 55) hx hb dX12_ringOf_5 (by decide) (fun c4 => ?_) (fun c4 => ?_)
      · have c4 := ci_le c4
        refine lv_bipush (v := (-2)) hx hb dX12_ringOf_55 (by decide) ?_
        exact ret _ _ _ _ (-2) () dX12_ringOf_57 trivial hP hD hS
      have c4 := ci_nle c4
      refine lv_iload_n hx hb dX12_ringOf_8 rfl (lv_at hl 0 rfl) ?_
      refine lv_iconst (v := 1) hx hb dX12_ringOf_9 (by decide) ?_
      refine lv_iadd hx hb dX12_ringOf_10 ?_
      refine lv_topi (fun x5 e6 => ?_)
      try have h7 : x5.toInt = k1.toInt + (1 : Int32).toInt := ci_add e6 (by omega) (by omega)
      refine lv_istore_n (lv' := [(2, .int x5), (1, .int k1), (0, .ref a12)]) hx hb dX12_ringOf_11 rfl hl (by decide) rfl (fun ls hl => ?_)
      have lp12 : ∀ (n12 : Nat) (k8 : Int32), (0 ≤ k8.toInt) → (6 - k8.toInt).toNat < n12 → ∀ (H : Heap) (locs : List Loc), va_P D vwCl [O12 a12 r12 v12_keptMany v12_done v12_sheets v12_holes v12_worms v12_laidMany v12_wanted v12_orderMany v12_firstOrder v12_lines v12_marks v12_dots v12_madeIn v12_bound v12_places v12_maps v12_tapeMany v12_stories v12_base v12_at v12_ends v12_fault v12_opened v12_bodies v12_ran v12_ownKind v12_ownNumber, (cI κ (r12 11) 40 f12_wormOf), (cI κ (r12 22) 20 f12_lineInk), (cI κ (r12 24) 60 f12_markLine), (cI κ (r12 25) 60 f12_markHole), (cZ κ (r12 26) 60 f12_isOver)] H → va_D A [O12 a12 r12 v12_keptMany v12_done v12_sheets v12_holes v12_worms v12_laidMany v12_wanted v12_orderMany v12_firstOrder v12_lines v12_marks v12_dots v12_madeIn v12_bound v12_places v12_maps v12_tapeMany v12_stories v12_base v12_at v12_ends v12_fault v12_opened v12_bodies v12_ran v12_ownKind v12_ownNumber, (cI κ (r12 11) 40 f12_wormOf), (cI κ (r12 22) 20 f12_lineInk), (cI κ (r12 24) 60 f12_markLine), (cI κ (r12 25) 60 f12_markHole), (cZ κ (r12 26) 60 f12_isOver)] → va_S A s.heap H locs → ∀ ls : Array Slot, lv_has ls 3 [(2, .int k8), (1, .int k1), (0, .ref a12)] → W p l e ({ frames := 2, cells := 0, slots := 0, locals := 49 } : Room) s m args below meth c H locs 0 0 Q (F0 m 12 ls []) := by
        intro n12
        induction n12 with
        | zero =>
          intro k8 h9 m10
          exact absurd m10 (Nat.not_lt_zero _)
        | succ n12 ih12 =>
          intro k8 h9 m10 H locs hP hD hS ls hl
          refine lv_iload_n hx hb dX12_ringOf_12 rfl (lv_at hl 0 rfl) ?_
          refine lv_bipush (v := 6) hx hb dX12_ringOf_13 (by decide) ?_
          refine lv_icmp_ge (tgt := 49) hx hb dX12_ringOf_15 (by decide) (fun c11 => ?_) (fun c11 => ?_)
          · have c11 := ci_le c11
            obtain ⟨x12, e13⟩ : ∃ y : Int32, y = k1 + 1 := ⟨_, rfl⟩
            refine lv_iinc (v := x12) (lv' := [(1, .int x12), (2, .int k8), (0, .ref a12)]) hx hb dX12_ringOf_49 hl (k := 1) rfl (by rw [e13]; rfl) (by decide) rfl (fun ls hl => ?_)
            try have h14 : x12.toInt = k1.toInt + (1 : Int32).toInt := ci_add e13 (by omega) (by omega)
            refine lv_goto (tgt := 2) hx hb dX12_ringOf_52 (by decide) ?_
            exact ih2 x12 (by omega) (by omega) _ _ hP hD hS _ (lv_sub hl [0, 2] rfl)
          have c11 := ci_nle c11
          refine lv_aload_n hx hb dX12_ringOf_18 rfl (lv_at hl 2 rfl) ?_
          refine lv_iload_n hx hb dX12_ringOf_19 rfl (lv_at hl 1 rfl) ?_
          refine lv_iload_n hx hb dX12_ringOf_20 rfl (lv_at hl 0 rfl) ?_
          refine kcm_i hA hAB hP hD hS [true, true, true, true, true, true] rfl (fun _ => rfl) (fun hPc hDc => va_runV (As := [.int k1, .int k8]) (rest := []) ⟨hx, hb, hml, hown, hts⟩ (k_X12_cameFirst l D κ β a12 r12 v12_keptMany v12_done v12_sheets v12_holes v12_worms v12_laidMany v12_wanted v12_orderMany v12_firstOrder v12_lines v12_marks v12_dots v12_madeIn v12_bound v12_places v12_maps v12_tapeMany v12_stories v12_base v12_at v12_ends v12_fault v12_opened v12_bodies v12_ran v12_ownKind v12_ownNumber f12_wormOf f12_lineInk f12_markLine f12_markHole f12_isOver H.size k1 k8 i1 i2 i3 i4 i5 i6 i7 i8 i9 i10 i11 i12 i13 i14 i15 i16 hf12_markLine hf12_markHole i17) (cwV 2 hts gX12_ringOf_X12_cameFirst rfl rfl rfl (by decide +kernel) ⟨Nat.le_of_ble_eq_true rfl, Nat.le_of_ble_eq_true rfl⟩) (pk_V hK hS hAB hPc hDc 0 (ci := 12) rfl rfl rfl) rfl rfl hl.1 rfl (lv_room (Nat.le_of_ble_eq_true rfl)) dX12_ringOf_21 ⟨Nat.le_of_ble_eq_true rfl, Nat.le_of_ble_eq_true rfl⟩) (fun x15 u16 H locs hw hPD hS => ?_)
          have h17 : x15.toInt = 0 ∨ x15.toInt = 1 := hw
          obtain ⟨hP, hD⟩ : PD D A [O12 a12 r12 v12_keptMany v12_done v12_sheets v12_holes v12_worms v12_laidMany v12_wanted v12_orderMany v12_firstOrder v12_lines v12_marks v12_dots v12_madeIn v12_bound v12_places v12_maps v12_tapeMany v12_stories v12_base v12_at v12_ends v12_fault v12_opened v12_bodies v12_ran v12_ownKind v12_ownNumber, (cI κ (r12 11) 40 f12_wormOf), (cI κ (r12 22) 20 f12_lineInk), (cI κ (r12 24) 60 f12_markLine), (cI κ (r12 25) 60 f12_markHole), (cZ κ (r12 26) 60 f12_isOver)] H := hPD
          refine lv_if_eq (tgt := 43) hx hb dX12_ringOf_24 (by decide) (fun c18 => ?_) (fun c18 => ?_)
          · have c18 := ci_eq c18
            obtain ⟨x19, e20⟩ : ∃ y : Int32, y = k8 + 1 := ⟨_, rfl⟩
            refine lv_iinc (v := x19) (lv' := [(2, .int x19), (1, .int k1), (0, .ref a12)]) hx hb dX12_ringOf_43 hl (k := 0) rfl (by rw [e20]; rfl) (by decide) rfl (fun ls hl => ?_)
            try have h21 : x19.toInt = k8.toInt + (1 : Int32).toInt := ci_add e20 (by omega) (by omega)
            refine lv_goto (tgt := 12) hx hb dX12_ringOf_46 (by decide) ?_
            exact ih12 x19 (by omega) (by omega) _ _ hP hD hS _ hl
          have c18 := ci_ne c18
          refine lv_aload_n hx hb dX12_ringOf_27 rfl (lv_at hl 2 rfl) ?_
          refine lv_iload_n hx hb dX12_ringOf_28 rfl (lv_at hl 0 rfl) ?_
          refine lv_iload_n hx hb dX12_ringOf_29 rfl (lv_at hl 1 rfl) ?_
          refine kcm_i hA hAB hP hD hS [true, true, true, true, true, true] rfl (fun _ => rfl) (fun hPc hDc => va_runV (As := [.int k8, .int k1]) (rest := []) ⟨hx, hb, hml, hown, hts⟩ (k_X12_cameFirst l D κ β a12 r12 v12_keptMany v12_done v12_sheets v12_holes v12_worms v12_laidMany v12_wanted v12_orderMany v12_firstOrder v12_lines v12_marks v12_dots v12_madeIn v12_bound v12_places v12_maps v12_tapeMany v12_stories v12_base v12_at v12_ends v12_fault v12_opened v12_bodies v12_ran v12_ownKind v12_ownNumber f12_wormOf f12_lineInk f12_markLine f12_markHole f12_isOver H.size k8 k1 i1 i2 i3 i4 i5 i6 i7 i8 i9 i10 i11 i12 i13 i14 i15 i16 hf12_markLine hf12_markHole i17) (cwV 2 hts gX12_ringOf_X12_cameFirst rfl rfl rfl (by decide +kernel) ⟨Nat.le_of_ble_eq_true rfl, Nat.le_of_ble_eq_true rfl⟩) (pk_V hK hS hAB hPc hDc 0 (ci := 12) rfl rfl rfl) rfl rfl hl.1 rfl (lv_room (Nat.le_of_ble_eq_true rfl)) dX12_ringOf_30 ⟨Nat.le_of_ble_eq_true rfl, Nat.le_of_ble_eq_true rfl⟩) (fun x22 u23 H locs hw hPD hS => ?_)
          have h24 : x22.toInt = 0 ∨ x22.toInt = 1 := hw
          obtain ⟨hP, hD⟩ : PD D A [O12 a12 r12 v12_keptMany v12_done v12_sheets v12_holes v12_worms v12_laidMany v12_wanted v12_orderMany v12_firstOrder v12_lines v12_marks v12_dots v12_madeIn v12_bound v12_places v12_maps v12_tapeMany v12_stories v12_base v12_at v12_ends v12_fault v12_opened v12_bodies v12_ran v12_ownKind v12_ownNumber, (cI κ (r12 11) 40 f12_wormOf), (cI κ (r12 22) 20 f12_lineInk), (cI κ (r12 24) 60 f12_markLine), (cI κ (r12 25) 60 f12_markHole), (cZ κ (r12 26) 60 f12_isOver)] H := hPD
          refine lv_if_eq (tgt := 43) hx hb dX12_ringOf_33 (by decide) (fun c25 => ?_) (fun c25 => ?_)
          · have c25 := ci_eq c25
            obtain ⟨x26, e27⟩ : ∃ y : Int32, y = k8 + 1 := ⟨_, rfl⟩
            refine lv_iinc (v := x26) (lv' := [(2, .int x26), (1, .int k1), (0, .ref a12)]) hx hb dX12_ringOf_43 hl (k := 0) rfl (by rw [e27]; rfl) (by decide) rfl (fun ls hl => ?_)
            try have h28 : x26.toInt = k8.toInt + (1 : Int32).toInt := ci_add e27 (by omega) (by omega)
            refine lv_goto (tgt := 12) hx hb dX12_ringOf_46 (by decide) ?_
            exact ih12 x26 (by omega) (by omega) _ _ hP hD hS _ hl
          have c25 := ci_ne c25
          refine lv_bipush (v := 10) hx hb dX12_ringOf_36 (by decide) ?_
          refine lv_iload_n hx hb dX12_ringOf_38 rfl (lv_at hl 1 rfl) ?_
          refine lv_imul hx hb dX12_ringOf_39 ?_
          refine lv_topi (fun x29 e30 => ?_)
          try have h31 : x29.toInt = 10 * k1.toInt := ci_mulL (n := 10) (by decide) e30 (by omega) (by omega)
          refine lv_iload_n hx hb dX12_ringOf_40 rfl (lv_at hl 0 rfl) ?_
          refine lv_iadd hx hb dX12_ringOf_41 ?_
          refine lv_topi (fun x32 e33 => ?_)
          try have h34 : x32.toInt = x29.toInt + k8.toInt := ci_add e33 (by omega) (by omega)
          exact ret _ _ _ _ x32 () dX12_ringOf_42 trivial hP hD hS
      exact lp12 ((6 - x5.toInt).toNat + 1) x5 (by omega) (by omega) _ _ hP hD hS _ hl
  exact lp2 ((6 - (0 : Int32).toInt).toNat + 1) 0 (by omega) (by omega) _ _ hP hD hS _ hl
set_option maxHeartbeats 4000000 in
set_option maxRecDepth 100000 in
theorem k_X12_inks (l : Launch) (D : va_G) (κ : Nat → ClassId) (β : Nat) (a12 : Nat) (r12 : Nat → Nat) (v12_keptMany : Int32) (v12_done : Int32) (v12_sheets : Int32) (v12_holes : Int32) (v12_worms : Int32) (v12_laidMany : Int32) (v12_wanted : Int32) (v12_orderMany : Int32) (v12_firstOrder : Int32) (v12_lines : Int32) (v12_marks : Int32) (v12_dots : Int32) (v12_madeIn : Int32) (v12_bound : Int32) (v12_places : Int32) (v12_maps : Int32) (v12_tapeMany : Int32) (v12_stories : Int32) (v12_base : Int32) (v12_at : Int32) (v12_ends : Int32) (v12_fault : Int32) (v12_opened : Int32) (v12_bodies : Int32) (v12_ran : Int32) (v12_ownKind : Int32) (v12_ownNumber : Int32) (f12_sheetOf : Nat → Int32) (f12_placeOf : Nat → Int32) (f12_sorted : Nat → Int32) (f12_wormOf : Nat → Int32) (f12_wormSheets : Nat → Int32) (f12_lineInk : Nat → Int32) (f12_markLine : Nat → Int32) (f12_markHole : Nat → Int32) (f12_isOver : Nat → Int32) (sz : Nat) (p1 : Int32) (p2 : Int32) (i1 : Rg 0 40 v12_keptMany) (i2 : Rg 0 40 v12_done) (i3 : Rg 0 8 v12_sheets) (i4 : Rg 0 40 v12_holes) (i5 : Rg 0 40 v12_worms) (i6 : Rg 0 8 v12_laidMany) (i7 : Rg 0 8 v12_wanted) (i8 : Rg 0 20 v12_lines) (i9 : Rg 0 60 v12_marks) (i10 : Rg 0 40 v12_dots) (i11 : Rg 0 20 v12_places) (i12 : Rg 0 8 v12_maps) (i13 : Rg 0 120 v12_tapeMany) (i14 : Rg 0 6 v12_stories) (i15 : Rg 0 50 v12_bodies) (i16 : Rg 0 1000 v12_ran) (hf12_sorted : ∀ j : Nat, 0 ≤ (f12_sorted j).toInt ∧ (f12_sorted j).toInt ≤ 39) (hf12_markLine : ∀ j : Nat, 0 ≤ (f12_markLine j).toInt ∧ (f12_markLine j).toInt ≤ 19) (hf12_markHole : ∀ j : Nat, 0 ≤ (f12_markHole j).toInt ∧ (f12_markHole j).toInt ≤ 39) (i17 : v12_done.toInt ≤ v12_keptMany.toInt) : Met l yX12_inks wsX12_inks ({ frames := 3, cells := 0, slots := 0, locals := 72 } : Room) (PcK D κ β [O12 a12 r12 v12_keptMany v12_done v12_sheets v12_holes v12_worms v12_laidMany v12_wanted v12_orderMany v12_firstOrder v12_lines v12_marks v12_dots v12_madeIn v12_bound v12_places v12_maps v12_tapeMany v12_stories v12_base v12_at v12_ends v12_fault v12_opened v12_bodies v12_ran v12_ownKind v12_ownNumber, (cI κ (r12 8) 40 f12_sheetOf), (cI κ (r12 9) 40 f12_placeOf), (cI κ (r12 10) 40 f12_sorted), (cI κ (r12 11) 40 f12_wormOf), (cI κ (r12 12) 40 f12_wormSheets), (cI κ (r12 22) 20 f12_lineInk), (cI κ (r12 24) 60 f12_markLine), (cI κ (r12 25) 60 f12_markHole), (cZ κ (r12 26) 60 f12_isOver)] sz [.ref a12, .int p1, .int p2]) (QiK D (fun (r : Int32) (u : Int32 × (Nat → Int32) × (Nat → Int32) × (Nat → Int32)) => (0 ≤ u.1.toInt ∧ u.1.toInt ≤ 40) ∧ (∀ j : Nat, 0 ≤ (u.2.1 j).toInt ∧ (u.2.1 j).toInt ≤ 39)) (fun (u : Int32 × (Nat → Int32) × (Nat → Int32) × (Nat → Int32)) => [O12 a12 r12 v12_keptMany v12_done v12_sheets v12_holes u.1 v12_laidMany v12_wanted v12_orderMany v12_firstOrder v12_lines v12_marks v12_dots v12_madeIn v12_bound v12_places v12_maps v12_tapeMany v12_stories v12_base v12_at v12_ends v12_fault v12_opened v12_bodies v12_ran v12_ownKind v12_ownNumber, (cI κ (r12 8) 40 f12_sheetOf), (cI κ (r12 9) 40 f12_placeOf), (cI κ (r12 10) 40 u.2.1), (cI κ (r12 11) 40 u.2.2.1), (cI κ (r12 12) 40 u.2.2.2), (cI κ (r12 22) 20 f12_lineInk), (cI κ (r12 24) 60 f12_markLine), (cI κ (r12 25) 60 f12_markHole), (cZ κ (r12 26) 60 f12_isOver)]) [O12 a12 r12 v12_keptMany v12_done v12_sheets v12_holes v12_worms v12_laidMany v12_wanted v12_orderMany v12_firstOrder v12_lines v12_marks v12_dots v12_madeIn v12_bound v12_places v12_maps v12_tapeMany v12_stories v12_base v12_at v12_ends v12_fault v12_opened v12_bodies v12_ran v12_ownKind v12_ownNumber, (cI κ (r12 8) 40 f12_sheetOf), (cI κ (r12 9) 40 f12_placeOf), (cI κ (r12 10) 40 f12_sorted), (cI κ (r12 11) 40 f12_wormOf), (cI κ (r12 12) 40 f12_wormSheets), (cI κ (r12 22) 20 f12_lineInk), (cI κ (r12 24) 60 f12_markLine), (cI κ (r12 25) 60 f12_markHole), (cZ κ (r12 26) 60 f12_isOver)] sz) 0 0 (va_A [O12 a12 r12 v12_keptMany v12_done v12_sheets v12_holes v12_worms v12_laidMany v12_wanted v12_orderMany v12_firstOrder v12_lines v12_marks v12_dots v12_madeIn v12_bound v12_places v12_maps v12_tapeMany v12_stories v12_base v12_at v12_ends v12_fault v12_opened v12_bodies v12_ran v12_ownKind v12_ownNumber, (cI κ (r12 8) 40 f12_sheetOf), (cI κ (r12 9) 40 f12_placeOf), (cI κ (r12 10) 40 f12_sorted), (cI κ (r12 11) 40 f12_wormOf), (cI κ (r12 12) 40 f12_wormSheets), (cI κ (r12 22) 20 f12_lineInk), (cI κ (r12 24) 60 f12_markLine), (cI κ (r12 25) 60 f12_markHole), (cZ κ (r12 26) 60 f12_isOver)] sz) := by
  refine ofK_i (cc := cX12_inks) (maxL := 3) (own := RX12) (by decide) rfl rfl (Nat.le_of_ble_eq_true rfl) ?_
  intro p e s m args below meth c Q A ls hsz hx hb hml hts hown hK hA hAB hP hD hl ret
  have hS : va_S A s.heap s.heap [] := va_S.rf
  have hl : lv_has ls 3 [(0, .ref a12), (1, .int p1), (2, .int p2)] := hl
  have l0 : (0 : Int32).toInt = 0 := by decide
  have l1 : ((-1) : Int32).toInt = -1 := by decide
  have l2 : ((-2) : Int32).toInt = -2 := by decide
  have l3 : (10 : Int32).toInt = 10 := by decide
  have l4 : (1 : Int32).toInt = 1 := by decide
  refine lv_iload_n hx hb dX12_inks_0 rfl (lv_at hl 1 rfl) ?_
  refine kcm_i hA hAB hP hD hS [false, false, false, false, false, false, false, false, false, false] rfl (fun _ => rfl) (fun hPc hDc => va_runS (As := [.int p1]) (rest := []) ⟨hx, hb, hml, hown, hts⟩ (k_X12_isSlack l D κ β s.heap.size p1) (va_cwS 1 hts gX12_inks_X12_isSlack rfl rfl rfl (by decide +kernel) ⟨Nat.le_of_ble_eq_true rfl, Nat.le_of_ble_eq_true rfl⟩) (pk_S hK hS hAB hPc hDc) rfl rfl hl.1 rfl (lv_room (Nat.le_of_ble_eq_true rfl)) dX12_inks_1 ⟨Nat.le_of_ble_eq_true rfl, Nat.le_of_ble_eq_true rfl⟩) (fun x1 u2 H locs hw hPD hS => ?_)
  have h3 : (x1.toInt = 1 ∧ 0 ≤ p1.toInt ∧ p1.toInt ≤ 99) ∨ (x1.toInt = 0 ∧ (p1.toInt < 0 ∨ 99 < p1.toInt)) := hw
  obtain ⟨hP, hD⟩ : PD D A [O12 a12 r12 v12_keptMany v12_done v12_sheets v12_holes v12_worms v12_laidMany v12_wanted v12_orderMany v12_firstOrder v12_lines v12_marks v12_dots v12_madeIn v12_bound v12_places v12_maps v12_tapeMany v12_stories v12_base v12_at v12_ends v12_fault v12_opened v12_bodies v12_ran v12_ownKind v12_ownNumber, (cI κ (r12 8) 40 f12_sheetOf), (cI κ (r12 9) 40 f12_placeOf), (cI κ (r12 10) 40 f12_sorted), (cI κ (r12 11) 40 f12_wormOf), (cI κ (r12 12) 40 f12_wormSheets), (cI κ (r12 22) 20 f12_lineInk), (cI κ (r12 24) 60 f12_markLine), (cI κ (r12 25) 60 f12_markHole), (cZ κ (r12 26) 60 f12_isOver)] H := hPD
  refine lv_if_eq (tgt := 48) hx hb dX12_inks_4 (by decide) (fun c4 => ?_) (fun c4 => ?_)
  · have c4 := ci_eq c4
    refine lv_iconst (v := (-1)) hx hb dX12_inks_48 (by decide) ?_
    have hpo : (0 ≤ v12_worms.toInt ∧ v12_worms.toInt ≤ 40) ∧ (∀ j : Nat, 0 ≤ (f12_sorted j).toInt ∧ (f12_sorted j).toInt ≤ 39) := ⟨i5, hf12_sorted⟩
    exact ret _ _ _ _ (-1) (v12_worms, f12_sorted, f12_wormOf, f12_wormSheets) dX12_inks_49 hpo hP hD hS
  have c4 := ci_ne c4
  refine lv_iload_n hx hb dX12_inks_7 rfl (lv_at hl 2 rfl) ?_
  refine lv_bipush (v := (-2)) hx hb dX12_inks_8 (by decide) ?_
  refine lv_icmp_lt (tgt := 48) hx hb dX12_inks_10 (by decide) (fun c5 => ?_) (fun c5 => ?_)
  · have c5 := ci_lt c5
    refine lv_iconst (v := (-1)) hx hb dX12_inks_48 (by decide) ?_
    have hpo : (0 ≤ v12_worms.toInt ∧ v12_worms.toInt ≤ 40) ∧ (∀ j : Nat, 0 ≤ (f12_sorted j).toInt ∧ (f12_sorted j).toInt ≤ 39) := ⟨i5, hf12_sorted⟩
    exact ret _ _ _ _ (-1) (v12_worms, f12_sorted, f12_wormOf, f12_wormSheets) dX12_inks_49 hpo hP hD hS
  have c5 := ci_nlt c5
  refine lv_iload_n hx hb dX12_inks_13 rfl (lv_at hl 2 rfl) ?_
  refine lv_if_lt (tgt := 50) hx hb dX12_inks_14 (by decide) (fun c6 => ?_) (fun c6 => ?_)
  · have c6 := ci_lt c6
    refine lv_aload_n hx hb dX12_inks_50 rfl (lv_at hl 0 rfl) ?_
    refine lv_iload_n hx hb dX12_inks_51 rfl (lv_at hl 1 rfl) ?_
    refine lv_iconst (v := (-1)) hx hb dX12_inks_52 (by decide) ?_
    refine kcm_v hA hAB hP hD hS [true, true, true, true, true, true, false, false, false, false] rfl (fun _ => rfl) (fun hPc hDc => va_runV (As := [.int p1, .int (-1)]) (rest := []) ⟨hx, hb, hml, hown, hts⟩ (k_X12_findWorms l D κ β a12 r12 v12_keptMany v12_done v12_sheets v12_holes v12_worms v12_laidMany v12_wanted v12_orderMany v12_firstOrder v12_lines v12_marks v12_dots v12_madeIn v12_bound v12_places v12_maps v12_tapeMany v12_stories v12_base v12_at v12_ends v12_fault v12_opened v12_bodies v12_ran v12_ownKind v12_ownNumber f12_sheetOf f12_placeOf f12_sorted f12_wormOf f12_wormSheets H.size p1 (-1) i1 i2 i3 i4 i5 i6 i7 i8 i9 i10 i11 i12 i13 i14 i15 i16 hf12_sorted i17) (cwV 2 hts gX12_inks_X12_findWorms rfl rfl rfl (by decide +kernel) ⟨Nat.le_of_ble_eq_true rfl, Nat.le_of_ble_eq_true rfl⟩) (pk_V hK hS hAB hPc hDc 0 (ci := 12) rfl rfl rfl) rfl rfl hl.1 rfl (lv_room (Nat.le_of_ble_eq_true rfl)) dX12_inks_53 ⟨Nat.le_of_ble_eq_true rfl, Nat.le_of_ble_eq_true rfl⟩) (fun u11 H locs hw hPD hS => ?_)
    obtain ⟨x7, g8, g9, g10⟩ := u11
    obtain ⟨h12, h13⟩ : (Rg 0 40 x7) ∧ (∀ j : Nat, 0 ≤ (g8 j).toInt ∧ (g8 j).toInt ≤ 39) := hw
    obtain ⟨hP, hD⟩ : PD D A [O12 a12 r12 v12_keptMany v12_done v12_sheets v12_holes x7 v12_laidMany v12_wanted v12_orderMany v12_firstOrder v12_lines v12_marks v12_dots v12_madeIn v12_bound v12_places v12_maps v12_tapeMany v12_stories v12_base v12_at v12_ends v12_fault v12_opened v12_bodies v12_ran v12_ownKind v12_ownNumber, (cI κ (r12 8) 40 f12_sheetOf), (cI κ (r12 9) 40 f12_placeOf), (cI κ (r12 10) 40 g8), (cI κ (r12 11) 40 g9), (cI κ (r12 12) 40 g10), (cI κ (r12 22) 20 f12_lineInk), (cI κ (r12 24) 60 f12_markLine), (cI κ (r12 25) 60 f12_markHole), (cZ κ (r12 26) 60 f12_isOver)] H := hPD
    refine lv_iload_n hx hb dX12_inks_56 rfl (lv_at hl 2 rfl) ?_
    refine lv_if_ge (tgt := 77) hx hb dX12_inks_57 (by decide) (fun c14 => ?_) (fun c14 => ?_)
    · have c14 := ci_le c14
      refine lv_aload_n hx hb dX12_inks_77 rfl (lv_at hl 0 rfl) ?_
      refine lv_iload_n hx hb dX12_inks_78 rfl (lv_at hl 2 rfl) ?_
      refine lv_bipush (v := 10) hx hb dX12_inks_79 (by decide) ?_
      refine lv_idiv hx hb dX12_inks_81 (by decide) ?_
      refine lv_topi (fun x15 e16 => ?_)
      have h17 := ci_divL (n := 10) (by decide) (by decide) e16
      refine lv_iload_n hx hb dX12_inks_82 rfl (lv_at hl 2 rfl) ?_
      refine lv_bipush (v := 10) hx hb dX12_inks_83 (by decide) ?_
      refine lv_irem hx hb dX12_inks_85 (by decide) ?_
      refine lv_topi (fun x18 e19 => ?_)
      have h20 := ci_remL (n := 10) (by decide) (by decide) e19
      refine kcm_i hA hAB hP hD hS [true, false, false, false, true, false, true, true, true, true] rfl (fun _ => rfl) (fun hPc hDc => va_runV (As := [.int x15, .int x18]) (rest := []) ⟨hx, hb, hml, hown, hts⟩ (k_X12_cameFirst l D κ β a12 r12 v12_keptMany v12_done v12_sheets v12_holes x7 v12_laidMany v12_wanted v12_orderMany v12_firstOrder v12_lines v12_marks v12_dots v12_madeIn v12_bound v12_places v12_maps v12_tapeMany v12_stories v12_base v12_at v12_ends v12_fault v12_opened v12_bodies v12_ran v12_ownKind v12_ownNumber g9 f12_lineInk f12_markLine f12_markHole f12_isOver H.size x15 x18 i1 i2 i3 i4 h12 i6 i7 i8 i9 i10 i11 i12 i13 i14 i15 i16 hf12_markLine hf12_markHole i17) (cwV 2 hts gX12_inks_X12_cameFirst rfl rfl rfl (by decide +kernel) ⟨Nat.le_of_ble_eq_true rfl, Nat.le_of_ble_eq_true rfl⟩) (pk_V hK hS hAB hPc hDc 0 (ci := 12) rfl rfl rfl) rfl rfl hl.1 rfl (lv_room (Nat.le_of_ble_eq_true rfl)) dX12_inks_86 ⟨Nat.le_of_ble_eq_true rfl, Nat.le_of_ble_eq_true rfl⟩) (fun x21 u22 H locs hw hPD hS => ?_)
      have h23 : x21.toInt = 0 ∨ x21.toInt = 1 := hw
      obtain ⟨hP, hD⟩ : PD D A [O12 a12 r12 v12_keptMany v12_done v12_sheets v12_holes x7 v12_laidMany v12_wanted v12_orderMany v12_firstOrder v12_lines v12_marks v12_dots v12_madeIn v12_bound v12_places v12_maps v12_tapeMany v12_stories v12_base v12_at v12_ends v12_fault v12_opened v12_bodies v12_ran v12_ownKind v12_ownNumber, (cI κ (r12 8) 40 f12_sheetOf), (cI κ (r12 9) 40 f12_placeOf), (cI κ (r12 10) 40 g8), (cI κ (r12 11) 40 g9), (cI κ (r12 12) 40 g10), (cI κ (r12 22) 20 f12_lineInk), (cI κ (r12 24) 60 f12_markLine), (cI κ (r12 25) 60 f12_markHole), (cZ κ (r12 26) 60 f12_isOver)] H := hPD
      refine lv_if_eq (tgt := 96) hx hb dX12_inks_89 (by decide) (fun c24 => ?_) (fun c24 => ?_)
      · have c24 := ci_eq c24
        refine lv_iconst (v := 0) hx hb dX12_inks_96 (by decide) ?_
        have hpo : (0 ≤ x7.toInt ∧ x7.toInt ≤ 40) ∧ (∀ j : Nat, 0 ≤ (g8 j).toInt ∧ (g8 j).toInt ≤ 39) := ⟨h12, h13⟩
        exact ret _ _ _ _ 0 (x7, g8, g9, g10) dX12_inks_97 hpo hP hD hS
      have c24 := ci_ne c24
      refine lv_iconst (v := 1) hx hb dX12_inks_92 (by decide) ?_
      refine lv_goto (tgt := 97) hx hb dX12_inks_93 (by decide) ?_
      have hpo : (0 ≤ x7.toInt ∧ x7.toInt ≤ 40) ∧ (∀ j : Nat, 0 ≤ (g8 j).toInt ∧ (g8 j).toInt ≤ 39) := ⟨h12, h13⟩
      exact ret _ _ _ _ 1 (x7, g8, g9, g10) dX12_inks_97 hpo hP hD hS
    have c14 := ci_nle c14
    refine lv_iload_n hx hb dX12_inks_60 rfl (lv_at hl 2 rfl) ?_
    refine lv_iconst (v := (-1)) hx hb dX12_inks_61 (by decide) ?_
    refine lv_icmp_ne (tgt := 72) hx hb dX12_inks_62 (by decide) (fun c25 => ?_) (fun c25 => ?_)
    · have c25 := ci_ne c25
      refine lv_aload_n hx hb dX12_inks_72 rfl (lv_at hl 0 rfl) ?_
      refine kcm_i hA hAB hP hD hS [true, false, false, false, true, false, true, true, true, true] rfl (fun _ => rfl) (fun hPc hDc => va_runV (As := []) (rest := []) ⟨hx, hb, hml, hown, hts⟩ (k_X12_ringOf l D κ β a12 r12 v12_keptMany v12_done v12_sheets v12_holes x7 v12_laidMany v12_wanted v12_orderMany v12_firstOrder v12_lines v12_marks v12_dots v12_madeIn v12_bound v12_places v12_maps v12_tapeMany v12_stories v12_base v12_at v12_ends v12_fault v12_opened v12_bodies v12_ran v12_ownKind v12_ownNumber g9 f12_lineInk f12_markLine f12_markHole f12_isOver H.size i1 i2 i3 i4 h12 i6 i7 i8 i9 i10 i11 i12 i13 i14 i15 i16 hf12_markLine hf12_markHole i17) (cwV 0 hts gX12_inks_X12_ringOf rfl rfl rfl (by decide +kernel) ⟨Nat.le_of_ble_eq_true rfl, Nat.le_of_ble_eq_true rfl⟩) (pk_V hK hS hAB hPc hDc 0 (ci := 12) rfl rfl rfl) rfl rfl hl.1 rfl (lv_room (Nat.le_of_ble_eq_true rfl)) dX12_inks_73 ⟨Nat.le_of_ble_eq_true rfl, Nat.le_of_ble_eq_true rfl⟩) (fun x26 u27 H locs hw hPD hS => ?_)
      obtain ⟨hP, hD⟩ : PD D A [O12 a12 r12 v12_keptMany v12_done v12_sheets v12_holes x7 v12_laidMany v12_wanted v12_orderMany v12_firstOrder v12_lines v12_marks v12_dots v12_madeIn v12_bound v12_places v12_maps v12_tapeMany v12_stories v12_base v12_at v12_ends v12_fault v12_opened v12_bodies v12_ran v12_ownKind v12_ownNumber, (cI κ (r12 8) 40 f12_sheetOf), (cI κ (r12 9) 40 f12_placeOf), (cI κ (r12 10) 40 g8), (cI κ (r12 11) 40 g9), (cI κ (r12 12) 40 g10), (cI κ (r12 22) 20 f12_lineInk), (cI κ (r12 24) 60 f12_markLine), (cI κ (r12 25) 60 f12_markHole), (cZ κ (r12 26) 60 f12_isOver)] H := hPD
      have hpo : (0 ≤ x7.toInt ∧ x7.toInt ≤ 40) ∧ (∀ j : Nat, 0 ≤ (g8 j).toInt ∧ (g8 j).toInt ≤ 39) := ⟨h12, h13⟩
      exact ret _ _ _ _ x26 (x7, g8, g9, g10) dX12_inks_76 hpo hP hD hS
    have c25 := ci_eq c25
    refine lv_aload_n hx hb dX12_inks_65 rfl (lv_at hl 0 rfl) ?_
    refine kcm_i hA hAB hP hD hS [true, false, false, false, true, false, true, true, true, true] rfl (fun _ => rfl) (fun hPc hDc => va_runV (As := []) (rest := []) ⟨hx, hb, hml, hown, hts⟩ (k_X12_firstInk l D κ β a12 r12 v12_keptMany v12_done v12_sheets v12_holes x7 v12_laidMany v12_wanted v12_orderMany v12_firstOrder v12_lines v12_marks v12_dots v12_madeIn v12_bound v12_places v12_maps v12_tapeMany v12_stories v12_base v12_at v12_ends v12_fault v12_opened v12_bodies v12_ran v12_ownKind v12_ownNumber g9 f12_lineInk f12_markLine f12_markHole f12_isOver H.size i1 i2 i3 i4 h12 i6 i7 i8 i9 i10 i11 i12 i13 i14 i15 i16 hf12_markLine hf12_markHole i17) (cwV 0 hts gX12_inks_X12_firstInk rfl rfl rfl (by decide +kernel) ⟨Nat.le_of_ble_eq_true rfl, Nat.le_of_ble_eq_true rfl⟩) (pk_V hK hS hAB hPc hDc 0 (ci := 12) rfl rfl rfl) rfl rfl hl.1 rfl (lv_room (Nat.le_of_ble_eq_true rfl)) dX12_inks_66 ⟨Nat.le_of_ble_eq_true rfl, Nat.le_of_ble_eq_true rfl⟩) (fun x28 u29 H locs hw hPD hS => ?_)
    obtain ⟨hP, hD⟩ : PD D A [O12 a12 r12 v12_keptMany v12_done v12_sheets v12_holes x7 v12_laidMany v12_wanted v12_orderMany v12_firstOrder v12_lines v12_marks v12_dots v12_madeIn v12_bound v12_places v12_maps v12_tapeMany v12_stories v12_base v12_at v12_ends v12_fault v12_opened v12_bodies v12_ran v12_ownKind v12_ownNumber, (cI κ (r12 8) 40 f12_sheetOf), (cI κ (r12 9) 40 f12_placeOf), (cI κ (r12 10) 40 g8), (cI κ (r12 11) 40 g9), (cI κ (r12 12) 40 g10), (cI κ (r12 22) 20 f12_lineInk), (cI κ (r12 24) 60 f12_markLine), (cI κ (r12 25) 60 f12_markHole), (cZ κ (r12 26) 60 f12_isOver)] H := hPD
    refine lv_goto (tgt := 76) hx hb dX12_inks_69 (by decide) ?_
    have hpo : (0 ≤ x7.toInt ∧ x7.toInt ≤ 40) ∧ (∀ j : Nat, 0 ≤ (g8 j).toInt ∧ (g8 j).toInt ≤ 39) := ⟨h12, h13⟩
    exact ret _ _ _ _ x28 (x7, g8, g9, g10) dX12_inks_76 hpo hP hD hS
  have c6 := ci_nlt c6
  refine lv_iload_n hx hb dX12_inks_17 rfl (lv_at hl 2 rfl) ?_
  refine lv_bipush (v := 10) hx hb dX12_inks_18 (by decide) ?_
  refine lv_idiv hx hb dX12_inks_20 (by decide) ?_
  refine lv_topi (fun x30 e31 => ?_)
  have h32 := ci_divL (n := 10) (by decide) (by decide) e31
  refine kcm_i hA hAB hP hD hS [false, false, false, false, false, false, false, false, false, false] rfl (fun _ => rfl) (fun hPc hDc => va_runS (As := [.int x30]) (rest := []) ⟨hx, hb, hml, hown, hts⟩ (k_X12_isInk l D κ β H.size x30) (va_cwS 1 hts gX12_inks_X12_isInk rfl rfl rfl (by decide +kernel) ⟨Nat.le_of_ble_eq_true rfl, Nat.le_of_ble_eq_true rfl⟩) (pk_S hK hS hAB hPc hDc) rfl rfl hl.1 rfl (lv_room (Nat.le_of_ble_eq_true rfl)) dX12_inks_21 ⟨Nat.le_of_ble_eq_true rfl, Nat.le_of_ble_eq_true rfl⟩) (fun x33 u34 H locs hw hPD hS => ?_)
  have h35 : (x33.toInt = 1 ∧ 0 ≤ x30.toInt ∧ x30.toInt ≤ 5) ∨ (x33.toInt = 0 ∧ (x30.toInt < 0 ∨ 5 < x30.toInt)) := hw
  obtain ⟨hP, hD⟩ : PD D A [O12 a12 r12 v12_keptMany v12_done v12_sheets v12_holes v12_worms v12_laidMany v12_wanted v12_orderMany v12_firstOrder v12_lines v12_marks v12_dots v12_madeIn v12_bound v12_places v12_maps v12_tapeMany v12_stories v12_base v12_at v12_ends v12_fault v12_opened v12_bodies v12_ran v12_ownKind v12_ownNumber, (cI κ (r12 8) 40 f12_sheetOf), (cI κ (r12 9) 40 f12_placeOf), (cI κ (r12 10) 40 f12_sorted), (cI κ (r12 11) 40 f12_wormOf), (cI κ (r12 12) 40 f12_wormSheets), (cI κ (r12 22) 20 f12_lineInk), (cI κ (r12 24) 60 f12_markLine), (cI κ (r12 25) 60 f12_markHole), (cZ κ (r12 26) 60 f12_isOver)] H := hPD
  refine lv_if_eq (tgt := 48) hx hb dX12_inks_24 (by decide) (fun c36 => ?_) (fun c36 => ?_)
  · have c36 := ci_eq c36
    refine lv_iconst (v := (-1)) hx hb dX12_inks_48 (by decide) ?_
    have hpo : (0 ≤ v12_worms.toInt ∧ v12_worms.toInt ≤ 40) ∧ (∀ j : Nat, 0 ≤ (f12_sorted j).toInt ∧ (f12_sorted j).toInt ≤ 39) := ⟨i5, hf12_sorted⟩
    exact ret _ _ _ _ (-1) (v12_worms, f12_sorted, f12_wormOf, f12_wormSheets) dX12_inks_49 hpo hP hD hS
  have c36 := ci_ne c36
  refine lv_iload_n hx hb dX12_inks_27 rfl (lv_at hl 2 rfl) ?_
  refine lv_bipush (v := 10) hx hb dX12_inks_28 (by decide) ?_
  refine lv_irem hx hb dX12_inks_30 (by decide) ?_
  refine lv_topi (fun x37 e38 => ?_)
  have h39 := ci_remL (n := 10) (by decide) (by decide) e38
  refine kcm_i hA hAB hP hD hS [false, false, false, false, false, false, false, false, false, false] rfl (fun _ => rfl) (fun hPc hDc => va_runS (As := [.int x37]) (rest := []) ⟨hx, hb, hml, hown, hts⟩ (k_X12_isInk l D κ β H.size x37) (va_cwS 1 hts gX12_inks_X12_isInk rfl rfl rfl (by decide +kernel) ⟨Nat.le_of_ble_eq_true rfl, Nat.le_of_ble_eq_true rfl⟩) (pk_S hK hS hAB hPc hDc) rfl rfl hl.1 rfl (lv_room (Nat.le_of_ble_eq_true rfl)) dX12_inks_31 ⟨Nat.le_of_ble_eq_true rfl, Nat.le_of_ble_eq_true rfl⟩) (fun x40 u41 H locs hw hPD hS => ?_)
  have h42 : (x40.toInt = 1 ∧ 0 ≤ x37.toInt ∧ x37.toInt ≤ 5) ∨ (x40.toInt = 0 ∧ (x37.toInt < 0 ∨ 5 < x37.toInt)) := hw
  obtain ⟨hP, hD⟩ : PD D A [O12 a12 r12 v12_keptMany v12_done v12_sheets v12_holes v12_worms v12_laidMany v12_wanted v12_orderMany v12_firstOrder v12_lines v12_marks v12_dots v12_madeIn v12_bound v12_places v12_maps v12_tapeMany v12_stories v12_base v12_at v12_ends v12_fault v12_opened v12_bodies v12_ran v12_ownKind v12_ownNumber, (cI κ (r12 8) 40 f12_sheetOf), (cI κ (r12 9) 40 f12_placeOf), (cI κ (r12 10) 40 f12_sorted), (cI κ (r12 11) 40 f12_wormOf), (cI κ (r12 12) 40 f12_wormSheets), (cI κ (r12 22) 20 f12_lineInk), (cI κ (r12 24) 60 f12_markLine), (cI κ (r12 25) 60 f12_markHole), (cZ κ (r12 26) 60 f12_isOver)] H := hPD
  refine lv_if_eq (tgt := 48) hx hb dX12_inks_34 (by decide) (fun c43 => ?_) (fun c43 => ?_)
  · have c43 := ci_eq c43
    refine lv_iconst (v := (-1)) hx hb dX12_inks_48 (by decide) ?_
    have hpo : (0 ≤ v12_worms.toInt ∧ v12_worms.toInt ≤ 40) ∧ (∀ j : Nat, 0 ≤ (f12_sorted j).toInt ∧ (f12_sorted j).toInt ≤ 39) := ⟨i5, hf12_sorted⟩
    exact ret _ _ _ _ (-1) (v12_worms, f12_sorted, f12_wormOf, f12_wormSheets) dX12_inks_49 hpo hP hD hS
  have c43 := ci_ne c43
  refine lv_iload_n hx hb dX12_inks_37 rfl (lv_at hl 2 rfl) ?_
  refine lv_bipush (v := 10) hx hb dX12_inks_38 (by decide) ?_
  refine lv_idiv hx hb dX12_inks_40 (by decide) ?_
  refine lv_re e31 ?_
  refine lv_iload_n hx hb dX12_inks_41 rfl (lv_at hl 2 rfl) ?_
  refine lv_bipush (v := 10) hx hb dX12_inks_42 (by decide) ?_
  refine lv_irem hx hb dX12_inks_44 (by decide) ?_
  refine lv_re e38 ?_
  refine lv_icmp_ne (tgt := 50) hx hb dX12_inks_45 (by decide) (fun c44 => ?_) (fun c44 => ?_)
  · have c44 := ci_ne c44
    refine lv_aload_n hx hb dX12_inks_50 rfl (lv_at hl 0 rfl) ?_
    refine lv_iload_n hx hb dX12_inks_51 rfl (lv_at hl 1 rfl) ?_
    refine lv_iconst (v := (-1)) hx hb dX12_inks_52 (by decide) ?_
    refine kcm_v hA hAB hP hD hS [true, true, true, true, true, true, false, false, false, false] rfl (fun _ => rfl) (fun hPc hDc => va_runV (As := [.int p1, .int (-1)]) (rest := []) ⟨hx, hb, hml, hown, hts⟩ (k_X12_findWorms l D κ β a12 r12 v12_keptMany v12_done v12_sheets v12_holes v12_worms v12_laidMany v12_wanted v12_orderMany v12_firstOrder v12_lines v12_marks v12_dots v12_madeIn v12_bound v12_places v12_maps v12_tapeMany v12_stories v12_base v12_at v12_ends v12_fault v12_opened v12_bodies v12_ran v12_ownKind v12_ownNumber f12_sheetOf f12_placeOf f12_sorted f12_wormOf f12_wormSheets H.size p1 (-1) i1 i2 i3 i4 i5 i6 i7 i8 i9 i10 i11 i12 i13 i14 i15 i16 hf12_sorted i17) (cwV 2 hts gX12_inks_X12_findWorms rfl rfl rfl (by decide +kernel) ⟨Nat.le_of_ble_eq_true rfl, Nat.le_of_ble_eq_true rfl⟩) (pk_V hK hS hAB hPc hDc 0 (ci := 12) rfl rfl rfl) rfl rfl hl.1 rfl (lv_room (Nat.le_of_ble_eq_true rfl)) dX12_inks_53 ⟨Nat.le_of_ble_eq_true rfl, Nat.le_of_ble_eq_true rfl⟩) (fun u49 H locs hw hPD hS => ?_)
    obtain ⟨x45, g46, g47, g48⟩ := u49
    obtain ⟨h50, h51⟩ : (Rg 0 40 x45) ∧ (∀ j : Nat, 0 ≤ (g46 j).toInt ∧ (g46 j).toInt ≤ 39) := hw
    obtain ⟨hP, hD⟩ : PD D A [O12 a12 r12 v12_keptMany v12_done v12_sheets v12_holes x45 v12_laidMany v12_wanted v12_orderMany v12_firstOrder v12_lines v12_marks v12_dots v12_madeIn v12_bound v12_places v12_maps v12_tapeMany v12_stories v12_base v12_at v12_ends v12_fault v12_opened v12_bodies v12_ran v12_ownKind v12_ownNumber, (cI κ (r12 8) 40 f12_sheetOf), (cI κ (r12 9) 40 f12_placeOf), (cI κ (r12 10) 40 g46), (cI κ (r12 11) 40 g47), (cI κ (r12 12) 40 g48), (cI κ (r12 22) 20 f12_lineInk), (cI κ (r12 24) 60 f12_markLine), (cI κ (r12 25) 60 f12_markHole), (cZ κ (r12 26) 60 f12_isOver)] H := hPD
    refine lv_iload_n hx hb dX12_inks_56 rfl (lv_at hl 2 rfl) ?_
    refine lv_if_ge (tgt := 77) hx hb dX12_inks_57 (by decide) (fun c52 => ?_) (fun c52 => ?_)
    · have c52 := ci_le c52
      refine lv_aload_n hx hb dX12_inks_77 rfl (lv_at hl 0 rfl) ?_
      refine lv_iload_n hx hb dX12_inks_78 rfl (lv_at hl 2 rfl) ?_
      refine lv_bipush (v := 10) hx hb dX12_inks_79 (by decide) ?_
      refine lv_idiv hx hb dX12_inks_81 (by decide) ?_
      refine lv_re e31 ?_
      refine lv_iload_n hx hb dX12_inks_82 rfl (lv_at hl 2 rfl) ?_
      refine lv_bipush (v := 10) hx hb dX12_inks_83 (by decide) ?_
      refine lv_irem hx hb dX12_inks_85 (by decide) ?_
      refine lv_re e38 ?_
      refine kcm_i hA hAB hP hD hS [true, false, false, false, true, false, true, true, true, true] rfl (fun _ => rfl) (fun hPc hDc => va_runV (As := [.int x30, .int x37]) (rest := []) ⟨hx, hb, hml, hown, hts⟩ (k_X12_cameFirst l D κ β a12 r12 v12_keptMany v12_done v12_sheets v12_holes x45 v12_laidMany v12_wanted v12_orderMany v12_firstOrder v12_lines v12_marks v12_dots v12_madeIn v12_bound v12_places v12_maps v12_tapeMany v12_stories v12_base v12_at v12_ends v12_fault v12_opened v12_bodies v12_ran v12_ownKind v12_ownNumber g47 f12_lineInk f12_markLine f12_markHole f12_isOver H.size x30 x37 i1 i2 i3 i4 h50 i6 i7 i8 i9 i10 i11 i12 i13 i14 i15 i16 hf12_markLine hf12_markHole i17) (cwV 2 hts gX12_inks_X12_cameFirst rfl rfl rfl (by decide +kernel) ⟨Nat.le_of_ble_eq_true rfl, Nat.le_of_ble_eq_true rfl⟩) (pk_V hK hS hAB hPc hDc 0 (ci := 12) rfl rfl rfl) rfl rfl hl.1 rfl (lv_room (Nat.le_of_ble_eq_true rfl)) dX12_inks_86 ⟨Nat.le_of_ble_eq_true rfl, Nat.le_of_ble_eq_true rfl⟩) (fun x53 u54 H locs hw hPD hS => ?_)
      have h55 : x53.toInt = 0 ∨ x53.toInt = 1 := hw
      obtain ⟨hP, hD⟩ : PD D A [O12 a12 r12 v12_keptMany v12_done v12_sheets v12_holes x45 v12_laidMany v12_wanted v12_orderMany v12_firstOrder v12_lines v12_marks v12_dots v12_madeIn v12_bound v12_places v12_maps v12_tapeMany v12_stories v12_base v12_at v12_ends v12_fault v12_opened v12_bodies v12_ran v12_ownKind v12_ownNumber, (cI κ (r12 8) 40 f12_sheetOf), (cI κ (r12 9) 40 f12_placeOf), (cI κ (r12 10) 40 g46), (cI κ (r12 11) 40 g47), (cI κ (r12 12) 40 g48), (cI κ (r12 22) 20 f12_lineInk), (cI κ (r12 24) 60 f12_markLine), (cI κ (r12 25) 60 f12_markHole), (cZ κ (r12 26) 60 f12_isOver)] H := hPD
      refine lv_if_eq (tgt := 96) hx hb dX12_inks_89 (by decide) (fun c56 => ?_) (fun c56 => ?_)
      · have c56 := ci_eq c56
        refine lv_iconst (v := 0) hx hb dX12_inks_96 (by decide) ?_
        have hpo : (0 ≤ x45.toInt ∧ x45.toInt ≤ 40) ∧ (∀ j : Nat, 0 ≤ (g46 j).toInt ∧ (g46 j).toInt ≤ 39) := ⟨h50, h51⟩
        exact ret _ _ _ _ 0 (x45, g46, g47, g48) dX12_inks_97 hpo hP hD hS
      have c56 := ci_ne c56
      refine lv_iconst (v := 1) hx hb dX12_inks_92 (by decide) ?_
      refine lv_goto (tgt := 97) hx hb dX12_inks_93 (by decide) ?_
      have hpo : (0 ≤ x45.toInt ∧ x45.toInt ≤ 40) ∧ (∀ j : Nat, 0 ≤ (g46 j).toInt ∧ (g46 j).toInt ≤ 39) := ⟨h50, h51⟩
      exact ret _ _ _ _ 1 (x45, g46, g47, g48) dX12_inks_97 hpo hP hD hS
    have c52 := ci_nle c52
    refine lv_iload_n hx hb dX12_inks_60 rfl (lv_at hl 2 rfl) ?_
    refine lv_iconst (v := (-1)) hx hb dX12_inks_61 (by decide) ?_
    refine lv_icmp_ne (tgt := 72) hx hb dX12_inks_62 (by decide) (fun c57 => ?_) (fun c57 => ?_)
    · have c57 := ci_ne c57
      refine lv_aload_n hx hb dX12_inks_72 rfl (lv_at hl 0 rfl) ?_
      refine kcm_i hA hAB hP hD hS [true, false, false, false, true, false, true, true, true, true] rfl (fun _ => rfl) (fun hPc hDc => va_runV (As := []) (rest := []) ⟨hx, hb, hml, hown, hts⟩ (k_X12_ringOf l D κ β a12 r12 v12_keptMany v12_done v12_sheets v12_holes x45 v12_laidMany v12_wanted v12_orderMany v12_firstOrder v12_lines v12_marks v12_dots v12_madeIn v12_bound v12_places v12_maps v12_tapeMany v12_stories v12_base v12_at v12_ends v12_fault v12_opened v12_bodies v12_ran v12_ownKind v12_ownNumber g47 f12_lineInk f12_markLine f12_markHole f12_isOver H.size i1 i2 i3 i4 h50 i6 i7 i8 i9 i10 i11 i12 i13 i14 i15 i16 hf12_markLine hf12_markHole i17) (cwV 0 hts gX12_inks_X12_ringOf rfl rfl rfl (by decide +kernel) ⟨Nat.le_of_ble_eq_true rfl, Nat.le_of_ble_eq_true rfl⟩) (pk_V hK hS hAB hPc hDc 0 (ci := 12) rfl rfl rfl) rfl rfl hl.1 rfl (lv_room (Nat.le_of_ble_eq_true rfl)) dX12_inks_73 ⟨Nat.le_of_ble_eq_true rfl, Nat.le_of_ble_eq_true rfl⟩) (fun x58 u59 H locs hw hPD hS => ?_)
      obtain ⟨hP, hD⟩ : PD D A [O12 a12 r12 v12_keptMany v12_done v12_sheets v12_holes x45 v12_laidMany v12_wanted v12_orderMany v12_firstOrder v12_lines v12_marks v12_dots v12_madeIn v12_bound v12_places v12_maps v12_tapeMany v12_stories v12_base v12_at v12_ends v12_fault v12_opened v12_bodies v12_ran v12_ownKind v12_ownNumber, (cI κ (r12 8) 40 f12_sheetOf), (cI κ (r12 9) 40 f12_placeOf), (cI κ (r12 10) 40 g46), (cI κ (r12 11) 40 g47), (cI κ (r12 12) 40 g48), (cI κ (r12 22) 20 f12_lineInk), (cI κ (r12 24) 60 f12_markLine), (cI κ (r12 25) 60 f12_markHole), (cZ κ (r12 26) 60 f12_isOver)] H := hPD
      have hpo : (0 ≤ x45.toInt ∧ x45.toInt ≤ 40) ∧ (∀ j : Nat, 0 ≤ (g46 j).toInt ∧ (g46 j).toInt ≤ 39) := ⟨h50, h51⟩
      exact ret _ _ _ _ x58 (x45, g46, g47, g48) dX12_inks_76 hpo hP hD hS
    have c57 := ci_eq c57
    refine lv_aload_n hx hb dX12_inks_65 rfl (lv_at hl 0 rfl) ?_
    refine kcm_i hA hAB hP hD hS [true, false, false, false, true, false, true, true, true, true] rfl (fun _ => rfl) (fun hPc hDc => va_runV (As := []) (rest := []) ⟨hx, hb, hml, hown, hts⟩ (k_X12_firstInk l D κ β a12 r12 v12_keptMany v12_done v12_sheets v12_holes x45 v12_laidMany v12_wanted v12_orderMany v12_firstOrder v12_lines v12_marks v12_dots v12_madeIn v12_bound v12_places v12_maps v12_tapeMany v12_stories v12_base v12_at v12_ends v12_fault v12_opened v12_bodies v12_ran v12_ownKind v12_ownNumber g47 f12_lineInk f12_markLine f12_markHole f12_isOver H.size i1 i2 i3 i4 h50 i6 i7 i8 i9 i10 i11 i12 i13 i14 i15 i16 hf12_markLine hf12_markHole i17) (cwV 0 hts gX12_inks_X12_firstInk rfl rfl rfl (by decide +kernel) ⟨Nat.le_of_ble_eq_true rfl, Nat.le_of_ble_eq_true rfl⟩) (pk_V hK hS hAB hPc hDc 0 (ci := 12) rfl rfl rfl) rfl rfl hl.1 rfl (lv_room (Nat.le_of_ble_eq_true rfl)) dX12_inks_66 ⟨Nat.le_of_ble_eq_true rfl, Nat.le_of_ble_eq_true rfl⟩) (fun x60 u61 H locs hw hPD hS => ?_)
    obtain ⟨hP, hD⟩ : PD D A [O12 a12 r12 v12_keptMany v12_done v12_sheets v12_holes x45 v12_laidMany v12_wanted v12_orderMany v12_firstOrder v12_lines v12_marks v12_dots v12_madeIn v12_bound v12_places v12_maps v12_tapeMany v12_stories v12_base v12_at v12_ends v12_fault v12_opened v12_bodies v12_ran v12_ownKind v12_ownNumber, (cI κ (r12 8) 40 f12_sheetOf), (cI κ (r12 9) 40 f12_placeOf), (cI κ (r12 10) 40 g46), (cI κ (r12 11) 40 g47), (cI κ (r12 12) 40 g48), (cI κ (r12 22) 20 f12_lineInk), (cI κ (r12 24) 60 f12_markLine), (cI κ (r12 25) 60 f12_markHole), (cZ κ (r12 26) 60 f12_isOver)] H := hPD
    refine lv_goto (tgt := 76) hx hb dX12_inks_69 (by decide) ?_
    have hpo : (0 ≤ x45.toInt ∧ x45.toInt ≤ 40) ∧ (∀ j : Nat, 0 ≤ (g46 j).toInt ∧ (g46 j).toInt ≤ 39) := ⟨h50, h51⟩
    exact ret _ _ _ _ x60 (x45, g46, g47, g48) dX12_inks_76 hpo hP hD hS
  have c44 := ci_eq c44
  refine lv_iconst (v := (-1)) hx hb dX12_inks_48 (by decide) ?_
  have hpo : (0 ≤ v12_worms.toInt ∧ v12_worms.toInt ≤ 40) ∧ (∀ j : Nat, 0 ≤ (f12_sorted j).toInt ∧ (f12_sorted j).toInt ≤ 39) := ⟨i5, hf12_sorted⟩
  exact ret _ _ _ _ (-1) (v12_worms, f12_sorted, f12_wormOf, f12_wormSheets) dX12_inks_49 hpo hP hD hS
