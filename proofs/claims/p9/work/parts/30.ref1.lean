set_option maxHeartbeats 4000000 in
set_option maxRecDepth 100000 in
theorem k_X12_within (l : Launch) (D : va_G) (κ : Nat → ClassId) (β : Nat) (sz : Nat) (p1 : Int64) (p2 : Int64) (p3 : Int64) : Met l yX12_within wsX12_within ({ frames := 0, cells := 0, slots := 0, locals := 0 } : Room) (PcK D κ β [] sz [.long p1, .long p2, .long p3]) (QiK D (fun (r : Int32) (u : Unit) => (r.toInt = 1 ∧ p2.toInt ≤ p1.toInt ∧ p1.toInt ≤ p3.toInt) ∨ (r.toInt = 0 ∧ (p1.toInt < p2.toInt ∨ p3.toInt < p1.toInt))) (fun (u : Unit) => []) [] sz) 0 0 (va_A [] sz) := by
  refine ofK_z (cc := cX12_within) (maxL := 6) (own := RX12) (by decide) rfl rfl (Nat.le_of_ble_eq_true rfl) ?_
  intro p e s m args below meth c Q A ls hsz hx hb hml hts hown hK hA hAB hP hD hl ret
  have hS : va_S A s.heap s.heap [] := va_S.rf
  have hl : lv_has ls 6 [(0, .long p1), (2, .long p2), (4, .long p3)] := hl
  have l0 : (0 : Int32).toInt = 0 := by decide
  have l1 : (1 : Int32).toInt = 1 := by decide
  refine lv_lload_n hx hb dX12_within_0 rfl (lv_at hl 0 rfl) ?_
  refine lv_lload_n hx hb dX12_within_1 rfl (lv_at hl 1 rfl) ?_
  refine W.lcmp hx hb dX12_within_2 ?_
  refine lv_topi (fun x1 e2 => ?_)
  have h3 := cl_cmp e2
  refine lv_if_lt (tgt := 17) hx hb dX12_within_3 (by decide) (fun c4 => ?_) (fun c4 => ?_)
  · have c4 := ci_lt c4
    refine lv_iconst (v := 0) hx hb dX12_within_17 (by decide) ?_
    have hpo : ((0 : Int32).toInt = 1 ∧ p2.toInt ≤ p1.toInt ∧ p1.toInt ≤ p3.toInt) ∨ ((0 : Int32).toInt = 0 ∧ (p1.toInt < p2.toInt ∨ p3.toInt < p1.toInt)) := (by omega)
    exact ret _ _ _ _ 0 () dX12_within_18 (by omega) hpo hP hD hS
  have c4 := ci_nlt c4
  refine lv_lload_n hx hb dX12_within_6 rfl (lv_at hl 0 rfl) ?_
  refine lv_lload hx hb dX12_within_7 (lv_at hl 2 rfl) ?_
  refine W.lcmp hx hb dX12_within_9 ?_
  refine lv_topi (fun x5 e6 => ?_)
  have h7 := cl_cmp e6
  refine lv_if_gt (tgt := 17) hx hb dX12_within_10 (by decide) (fun c8 => ?_) (fun c8 => ?_)
  · have c8 := ci_lt c8
    refine lv_iconst (v := 0) hx hb dX12_within_17 (by decide) ?_
    have hpo : ((0 : Int32).toInt = 1 ∧ p2.toInt ≤ p1.toInt ∧ p1.toInt ≤ p3.toInt) ∨ ((0 : Int32).toInt = 0 ∧ (p1.toInt < p2.toInt ∨ p3.toInt < p1.toInt)) := (by omega)
    exact ret _ _ _ _ 0 () dX12_within_18 (by omega) hpo hP hD hS
  have c8 := ci_nlt c8
  refine lv_iconst (v := 1) hx hb dX12_within_13 (by decide) ?_
  refine lv_goto (tgt := 18) hx hb dX12_within_14 (by decide) ?_
  have hpo : ((1 : Int32).toInt = 1 ∧ p2.toInt ≤ p1.toInt ∧ p1.toInt ≤ p3.toInt) ∨ ((1 : Int32).toInt = 0 ∧ (p1.toInt < p2.toInt ∨ p3.toInt < p1.toInt)) := (by omega)
  exact ret _ _ _ _ 1 () dX12_within_18 (by omega) hpo hP hD hS
set_option maxHeartbeats 4000000 in
set_option maxRecDepth 100000 in
theorem k_X12_size (l : Launch) (D : va_G) (κ : Nat → ClassId) (β : Nat) (sz : Nat) (p1 : Int32) : Met l yX12_size wsX12_size ({ frames := 0, cells := 0, slots := 0, locals := 0 } : Room) (PcK D κ β [] sz [.int p1]) (QiK D (fun (r : Int32) (u : Unit) => True) (fun (u : Unit) => []) [] sz) 0 0 (va_A [] sz) := by
  refine ofK_i (cc := cX12_size) (maxL := 1) (own := RX12) (by decide) rfl rfl (Nat.le_of_ble_eq_true rfl) ?_
  intro p e s m args below meth c Q A ls hsz hx hb hml hts hown hK hA hAB hP hD hl ret
  have hS : va_S A s.heap s.heap [] := va_S.rf
  have hl : lv_has ls 1 [(0, .int p1)] := hl
  have l0 : (0 : Int32).toInt = 0 := by decide
  refine lv_iload_n hx hb dX12_size_0 rfl (lv_at hl 0 rfl) ?_
  refine lv_if_ge (tgt := 9) hx hb dX12_size_1 (by decide) (fun c1 => ?_) (fun c1 => ?_)
  · have c1 := ci_le c1
    refine lv_iload_n hx hb dX12_size_9 rfl (lv_at hl 0 rfl) ?_
    exact ret _ _ _ _ p1 () dX12_size_10 trivial hP hD hS
  have c1 := ci_nle c1
  refine lv_iload_n hx hb dX12_size_4 rfl (lv_at hl 0 rfl) ?_
  refine lv_ineg hx hb dX12_size_5 ?_
  refine lv_topi (fun x2 e3 => ?_)
  try have h4 : x2.toInt = -p1.toInt := ci_neg e3 (by omega)
  refine lv_goto (tgt := 10) hx hb dX12_size_6 (by decide) ?_
  exact ret _ _ _ _ x2 () dX12_size_10 trivial hP hD hS
set_option maxHeartbeats 4000000 in
set_option maxRecDepth 100000 in
theorem k_X12_isSheet (l : Launch) (D : va_G) (κ : Nat → ClassId) (β : Nat) (a12 : Nat) (r12 : Nat → Nat) (v12_keptMany : Int32) (v12_done : Int32) (v12_sheets : Int32) (v12_holes : Int32) (v12_worms : Int32) (v12_laidMany : Int32) (v12_wanted : Int32) (v12_orderMany : Int32) (v12_firstOrder : Int32) (v12_lines : Int32) (v12_marks : Int32) (v12_dots : Int32) (v12_madeIn : Int32) (v12_bound : Int32) (v12_places : Int32) (v12_maps : Int32) (v12_tapeMany : Int32) (v12_stories : Int32) (v12_base : Int32) (v12_at : Int32) (v12_ends : Int32) (v12_fault : Int32) (v12_opened : Int32) (v12_bodies : Int32) (v12_ran : Int32) (v12_ownKind : Int32) (v12_ownNumber : Int32) (sz : Nat) (p1 : Int32) (i1 : Rg 0 40 v12_keptMany) (i2 : Rg 0 40 v12_done) (i3 : Rg 0 8 v12_sheets) (i4 : Rg 0 40 v12_holes) (i5 : Rg 0 40 v12_worms) (i6 : Rg 0 8 v12_laidMany) (i7 : Rg 0 8 v12_wanted) (i8 : Rg 0 20 v12_lines) (i9 : Rg 0 60 v12_marks) (i10 : Rg 0 40 v12_dots) (i11 : Rg 0 20 v12_places) (i12 : Rg 0 8 v12_maps) (i13 : Rg 0 120 v12_tapeMany) (i14 : Rg 0 6 v12_stories) (i15 : Rg 0 50 v12_bodies) (i16 : Rg 0 1000 v12_ran) (i17 : v12_done.toInt ≤ v12_keptMany.toInt) : Met l yX12_isSheet wsX12_isSheet ({ frames := 1, cells := 0, slots := 0, locals := 25 } : Room) (PcK D κ β [O12 a12 r12 v12_keptMany v12_done v12_sheets v12_holes v12_worms v12_laidMany v12_wanted v12_orderMany v12_firstOrder v12_lines v12_marks v12_dots v12_madeIn v12_bound v12_places v12_maps v12_tapeMany v12_stories v12_base v12_at v12_ends v12_fault v12_opened v12_bodies v12_ran v12_ownKind v12_ownNumber] sz [.ref a12, .int p1]) (QiK D (fun (r : Int32) (u : Unit) => (r.toInt = 1 ∧ 0 ≤ p1.toInt ∧ p1.toInt < v12_sheets.toInt) ∨ (r.toInt = 0 ∧ (p1.toInt < 0 ∨ v12_sheets.toInt ≤ p1.toInt))) (fun (u : Unit) => [O12 a12 r12 v12_keptMany v12_done v12_sheets v12_holes v12_worms v12_laidMany v12_wanted v12_orderMany v12_firstOrder v12_lines v12_marks v12_dots v12_madeIn v12_bound v12_places v12_maps v12_tapeMany v12_stories v12_base v12_at v12_ends v12_fault v12_opened v12_bodies v12_ran v12_ownKind v12_ownNumber]) [O12 a12 r12 v12_keptMany v12_done v12_sheets v12_holes v12_worms v12_laidMany v12_wanted v12_orderMany v12_firstOrder v12_lines v12_marks v12_dots v12_madeIn v12_bound v12_places v12_maps v12_tapeMany v12_stories v12_base v12_at v12_ends v12_fault v12_opened v12_bodies v12_ran v12_ownKind v12_ownNumber] sz) 0 0 (va_A [O12 a12 r12 v12_keptMany v12_done v12_sheets v12_holes v12_worms v12_laidMany v12_wanted v12_orderMany v12_firstOrder v12_lines v12_marks v12_dots v12_madeIn v12_bound v12_places v12_maps v12_tapeMany v12_stories v12_base v12_at v12_ends v12_fault v12_opened v12_bodies v12_ran v12_ownKind v12_ownNumber] sz) := by
  refine ofK_z (cc := cX12_isSheet) (maxL := 2) (own := RX12) (by decide) rfl rfl (Nat.le_of_ble_eq_true rfl) ?_
  intro p e s m args below meth c Q A ls hsz hx hb hml hts hown hK hA hAB hP hD hl ret
  have hS : va_S A s.heap s.heap [] := va_S.rf
  have hl : lv_has ls 2 [(0, .ref a12), (1, .int p1)] := hl
  have w0 := hts (.fieldLink RX12 133 "OlderSkinModel" "sheets" "I") (List.mem_of_getElem? (i := 1) rfl)
  have w1 := (fun w h => List.mem_cons_of_mem _ (List.mem_append_right _ h) : ∀ w ∈ u_ws RX12 TX12 63, w ∈ wsX12_isSheet)
  have l0 : (0 : Int64).toInt = 0 := by decide
  have l1 : (1 : Int32).toInt = 1 := by decide
  have i3 : 0 ≤ v12_sheets.toInt ∧ v12_sheets.toInt ≤ 8 := i3
  refine lv_iload_n hx hb dX12_isSheet_0 rfl (lv_at hl 1 rfl) ?_
  refine lv_i2l hx hb dX12_isSheet_1 rfl ?_
  refine lv_topl (fun x1 e2 => ?_)
  have h3 : x1.toInt = p1.toInt := cl_i2l e2
  refine lv_lconst (v := (0 : Int64)) hx hb dX12_isSheet_2 (by decide) ?_
  refine lv_aload_n hx hb dX12_isSheet_3 rfl (lv_at hl 0 rfl) ?_
  refine va_get (D := D) (ci := 12) (v := .int v12_sheets) (C := RX12) (T := TX12) (N := 63) hx hb hts w1 hown hK.1 hP 0 rfl rfl 6 (by decide) w0 (fun _ h9 => h9) rfl dX12_isSheet_4 ?_
  refine lv_iconst (v := 1) hx hb dX12_isSheet_7 (by decide) ?_
  refine lv_isub hx hb dX12_isSheet_8 ?_
  refine lv_topi (fun x4 e5 => ?_)
  try have h6 : x4.toInt = v12_sheets.toInt - (1 : Int32).toInt := ci_sub e5 (by omega) (by omega)
  refine lv_i2l hx hb dX12_isSheet_9 rfl ?_
  refine lv_topl (fun x7 e8 => ?_)
  have h9 : x7.toInt = x4.toInt := cl_i2l e8
  refine kcm_i hA hAB hP hD hS [false] rfl (fun _ => rfl) (fun hPc hDc => va_runS (As := [.long x1, .long (0 : Int64), .long x7]) (rest := []) ⟨hx, hb, hml, hown, hts⟩ (k_X12_within l D κ β s.heap.size x1 (0 : Int64) x7) (va_cwS 3 hts gX12_isSheet_X12_within rfl rfl rfl (by decide +kernel) ⟨Nat.le_of_ble_eq_true rfl, Nat.le_of_ble_eq_true rfl⟩) (pk_S hK hS hAB hPc hDc) rfl rfl hl.1 rfl (lv_room (Nat.le_of_ble_eq_true rfl)) dX12_isSheet_10 ⟨Nat.le_of_ble_eq_true rfl, Nat.le_of_ble_eq_true rfl⟩) (fun x10 u11 H locs hw hPD hS => ?_)
  have h12 : (x10.toInt = 1 ∧ (0 : Int64).toInt ≤ x1.toInt ∧ x1.toInt ≤ x7.toInt) ∨ (x10.toInt = 0 ∧ (x1.toInt < (0 : Int64).toInt ∨ x7.toInt < x1.toInt)) := hw
  obtain ⟨hP, hD⟩ : PD D A [O12 a12 r12 v12_keptMany v12_done v12_sheets v12_holes v12_worms v12_laidMany v12_wanted v12_orderMany v12_firstOrder v12_lines v12_marks v12_dots v12_madeIn v12_bound v12_places v12_maps v12_tapeMany v12_stories v12_base v12_at v12_ends v12_fault v12_opened v12_bodies v12_ran v12_ownKind v12_ownNumber] H := hPD
  have hpo : (x10.toInt = 1 ∧ 0 ≤ p1.toInt ∧ p1.toInt < v12_sheets.toInt) ∨ (x10.toInt = 0 ∧ (p1.toInt < 0 ∨ v12_sheets.toInt ≤ p1.toInt)) := (by omega)
  exact ret _ _ _ _ x10 () dX12_isSheet_13 (by omega) hpo hP hD hS
set_option maxHeartbeats 4000000 in
set_option maxRecDepth 100000 in
theorem k_X12_isHole (l : Launch) (D : va_G) (κ : Nat → ClassId) (β : Nat) (a12 : Nat) (r12 : Nat → Nat) (v12_keptMany : Int32) (v12_done : Int32) (v12_sheets : Int32) (v12_holes : Int32) (v12_worms : Int32) (v12_laidMany : Int32) (v12_wanted : Int32) (v12_orderMany : Int32) (v12_firstOrder : Int32) (v12_lines : Int32) (v12_marks : Int32) (v12_dots : Int32) (v12_madeIn : Int32) (v12_bound : Int32) (v12_places : Int32) (v12_maps : Int32) (v12_tapeMany : Int32) (v12_stories : Int32) (v12_base : Int32) (v12_at : Int32) (v12_ends : Int32) (v12_fault : Int32) (v12_opened : Int32) (v12_bodies : Int32) (v12_ran : Int32) (v12_ownKind : Int32) (v12_ownNumber : Int32) (sz : Nat) (p1 : Int32) (i1 : Rg 0 40 v12_keptMany) (i2 : Rg 0 40 v12_done) (i3 : Rg 0 8 v12_sheets) (i4 : Rg 0 40 v12_holes) (i5 : Rg 0 40 v12_worms) (i6 : Rg 0 8 v12_laidMany) (i7 : Rg 0 8 v12_wanted) (i8 : Rg 0 20 v12_lines) (i9 : Rg 0 60 v12_marks) (i10 : Rg 0 40 v12_dots) (i11 : Rg 0 20 v12_places) (i12 : Rg 0 8 v12_maps) (i13 : Rg 0 120 v12_tapeMany) (i14 : Rg 0 6 v12_stories) (i15 : Rg 0 50 v12_bodies) (i16 : Rg 0 1000 v12_ran) (i17 : v12_done.toInt ≤ v12_keptMany.toInt) : Met l yX12_isHole wsX12_isHole ({ frames := 1, cells := 0, slots := 0, locals := 25 } : Room) (PcK D κ β [O12 a12 r12 v12_keptMany v12_done v12_sheets v12_holes v12_worms v12_laidMany v12_wanted v12_orderMany v12_firstOrder v12_lines v12_marks v12_dots v12_madeIn v12_bound v12_places v12_maps v12_tapeMany v12_stories v12_base v12_at v12_ends v12_fault v12_opened v12_bodies v12_ran v12_ownKind v12_ownNumber] sz [.ref a12, .int p1]) (QiK D (fun (r : Int32) (u : Unit) => (r.toInt = 1 ∧ 0 ≤ p1.toInt ∧ p1.toInt < v12_holes.toInt) ∨ (r.toInt = 0 ∧ (p1.toInt < 0 ∨ v12_holes.toInt ≤ p1.toInt))) (fun (u : Unit) => [O12 a12 r12 v12_keptMany v12_done v12_sheets v12_holes v12_worms v12_laidMany v12_wanted v12_orderMany v12_firstOrder v12_lines v12_marks v12_dots v12_madeIn v12_bound v12_places v12_maps v12_tapeMany v12_stories v12_base v12_at v12_ends v12_fault v12_opened v12_bodies v12_ran v12_ownKind v12_ownNumber]) [O12 a12 r12 v12_keptMany v12_done v12_sheets v12_holes v12_worms v12_laidMany v12_wanted v12_orderMany v12_firstOrder v12_lines v12_marks v12_dots v12_madeIn v12_bound v12_places v12_maps v12_tapeMany v12_stories v12_base v12_at v12_ends v12_fault v12_opened v12_bodies v12_ran v12_ownKind v12_ownNumber] sz) 0 0 (va_A [O12 a12 r12 v12_keptMany v12_done v12_sheets v12_holes v12_worms v12_laidMany v12_wanted v12_orderMany v12_firstOrder v12_lines v12_marks v12_dots v12_madeIn v12_bound v12_places v12_maps v12_tapeMany v12_stories v12_base v12_at v12_ends v12_fault v12_opened v12_bodies v12_ran v12_ownKind v12_ownNumber] sz) := by
  refine ofK_z (cc := cX12_isHole) (maxL := 2) (own := RX12) (by decide) rfl rfl (Nat.le_of_ble_eq_true rfl) ?_
  intro p e s m args below meth c Q A ls hsz hx hb hml hts hown hK hA hAB hP hD hl ret
  have hS : va_S A s.heap s.heap [] := va_S.rf
  have hl : lv_has ls 2 [(0, .ref a12), (1, .int p1)] := hl
  have w0 := hts (.fieldLink RX12 140 "OlderSkinModel" "holes" "I") (List.mem_of_getElem? (i := 1) rfl)
  have w1 := (fun w h => List.mem_cons_of_mem _ (List.mem_append_right _ h) : ∀ w ∈ u_ws RX12 TX12 63, w ∈ wsX12_isHole)
  have l0 : (0 : Int64).toInt = 0 := by decide
  have l1 : (1 : Int32).toInt = 1 := by decide
  have i4 : 0 ≤ v12_holes.toInt ∧ v12_holes.toInt ≤ 40 := i4
  refine lv_iload_n hx hb dX12_isHole_0 rfl (lv_at hl 1 rfl) ?_
  refine lv_i2l hx hb dX12_isHole_1 rfl ?_
  refine lv_topl (fun x1 e2 => ?_)
  have h3 : x1.toInt = p1.toInt := cl_i2l e2
  refine lv_lconst (v := (0 : Int64)) hx hb dX12_isHole_2 (by decide) ?_
  refine lv_aload_n hx hb dX12_isHole_3 rfl (lv_at hl 0 rfl) ?_
  refine va_get (D := D) (ci := 12) (v := .int v12_holes) (C := RX12) (T := TX12) (N := 63) hx hb hts w1 hown hK.1 hP 0 rfl rfl 7 (by decide) w0 (fun _ h9 => h9) rfl dX12_isHole_4 ?_
  refine lv_iconst (v := 1) hx hb dX12_isHole_7 (by decide) ?_
  refine lv_isub hx hb dX12_isHole_8 ?_
  refine lv_topi (fun x4 e5 => ?_)
  try have h6 : x4.toInt = v12_holes.toInt - (1 : Int32).toInt := ci_sub e5 (by omega) (by omega)
  refine lv_i2l hx hb dX12_isHole_9 rfl ?_
  refine lv_topl (fun x7 e8 => ?_)
  have h9 : x7.toInt = x4.toInt := cl_i2l e8
  refine kcm_i hA hAB hP hD hS [false] rfl (fun _ => rfl) (fun hPc hDc => va_runS (As := [.long x1, .long (0 : Int64), .long x7]) (rest := []) ⟨hx, hb, hml, hown, hts⟩ (k_X12_within l D κ β s.heap.size x1 (0 : Int64) x7) (va_cwS 3 hts gX12_isHole_X12_within rfl rfl rfl (by decide +kernel) ⟨Nat.le_of_ble_eq_true rfl, Nat.le_of_ble_eq_true rfl⟩) (pk_S hK hS hAB hPc hDc) rfl rfl hl.1 rfl (lv_room (Nat.le_of_ble_eq_true rfl)) dX12_isHole_10 ⟨Nat.le_of_ble_eq_true rfl, Nat.le_of_ble_eq_true rfl⟩) (fun x10 u11 H locs hw hPD hS => ?_)
  have h12 : (x10.toInt = 1 ∧ (0 : Int64).toInt ≤ x1.toInt ∧ x1.toInt ≤ x7.toInt) ∨ (x10.toInt = 0 ∧ (x1.toInt < (0 : Int64).toInt ∨ x7.toInt < x1.toInt)) := hw
  obtain ⟨hP, hD⟩ : PD D A [O12 a12 r12 v12_keptMany v12_done v12_sheets v12_holes v12_worms v12_laidMany v12_wanted v12_orderMany v12_firstOrder v12_lines v12_marks v12_dots v12_madeIn v12_bound v12_places v12_maps v12_tapeMany v12_stories v12_base v12_at v12_ends v12_fault v12_opened v12_bodies v12_ran v12_ownKind v12_ownNumber] H := hPD
  have hpo : (x10.toInt = 1 ∧ 0 ≤ p1.toInt ∧ p1.toInt < v12_holes.toInt) ∨ (x10.toInt = 0 ∧ (p1.toInt < 0 ∨ v12_holes.toInt ≤ p1.toInt)) := (by omega)
  exact ret _ _ _ _ x10 () dX12_isHole_13 (by omega) hpo hP hD hS
set_option maxHeartbeats 4000000 in
set_option maxRecDepth 100000 in
theorem k_X12_isYear (l : Launch) (D : va_G) (κ : Nat → ClassId) (β : Nat) (sz : Nat) (p1 : Int32) : Met l yX12_isYear wsX12_isYear ({ frames := 1, cells := 0, slots := 0, locals := 25 } : Room) (PcK D κ β [] sz [.int p1]) (QiK D (fun (r : Int32) (u : Unit) => (r.toInt = 1 ∧ 0 ≤ p1.toInt ∧ p1.toInt ≤ 2000) ∨ (r.toInt = 0 ∧ (p1.toInt < 0 ∨ 2000 < p1.toInt))) (fun (u : Unit) => []) [] sz) 0 0 (va_A [] sz) := by
  refine ofK_z (cc := cX12_isYear) (maxL := 1) (own := RX12) (by decide) rfl rfl (Nat.le_of_ble_eq_true rfl) ?_
  intro p e s m args below meth c Q A ls hsz hx hb hml hts hown hK hA hAB hP hD hl ret
  have hS : va_S A s.heap s.heap [] := va_S.rf
  have hl : lv_has ls 1 [(0, .int p1)] := hl
  have w0 := hts (.constantLong RX12 143 (2000)) (List.mem_of_getElem? (i := 1) rfl)
  have l0 : (0 : Int64).toInt = 0 := by decide
  have l1 : (2000 : Int64).toInt = 2000 := by decide
  refine lv_iload_n hx hb dX12_isYear_0 rfl (lv_at hl 0 rfl) ?_
  refine lv_i2l hx hb dX12_isYear_1 rfl ?_
  refine lv_topl (fun x1 e2 => ?_)
  have h3 : x1.toInt = p1.toInt := cl_i2l e2
  refine lv_lconst (v := (0 : Int64)) hx hb dX12_isYear_2 (by decide) ?_
  refine lv_ldc2 (v := (2000 : Int64)) hx hb hown w0 dX12_isYear_3 ?_
  refine kcm_i hA hAB hP hD hS [] rfl (fun _ => rfl) (fun hPc hDc => va_runS (As := [.long x1, .long (0 : Int64), .long (2000 : Int64)]) (rest := []) ⟨hx, hb, hml, hown, hts⟩ (k_X12_within l D κ β s.heap.size x1 (0 : Int64) (2000 : Int64)) (va_cwS 3 hts gX12_isYear_X12_within rfl rfl rfl (by decide +kernel) ⟨Nat.le_of_ble_eq_true rfl, Nat.le_of_ble_eq_true rfl⟩) (pk_S hK hS hAB hPc hDc) rfl rfl hl.1 rfl (lv_room (Nat.le_of_ble_eq_true rfl)) dX12_isYear_6 ⟨Nat.le_of_ble_eq_true rfl, Nat.le_of_ble_eq_true rfl⟩) (fun x4 u5 H locs hw hPD hS => ?_)
  have h6 : (x4.toInt = 1 ∧ (0 : Int64).toInt ≤ x1.toInt ∧ x1.toInt ≤ (2000 : Int64).toInt) ∨ (x4.toInt = 0 ∧ (x1.toInt < (0 : Int64).toInt ∨ (2000 : Int64).toInt < x1.toInt)) := hw
  obtain ⟨hP, hD⟩ : PD D A [] H := hPD
  have hpo : (x4.toInt = 1 ∧ 0 ≤ p1.toInt ∧ p1.toInt ≤ 2000) ∨ (x4.toInt = 0 ∧ (p1.toInt < 0 ∨ 2000 < p1.toInt)) := (by omega)
  exact ret _ _ _ _ x4 () dX12_isYear_9 (by omega) hpo hP hD hS
set_option maxHeartbeats 4000000 in
set_option maxRecDepth 100000 in
theorem k_X12_isSlack (l : Launch) (D : va_G) (κ : Nat → ClassId) (β : Nat) (sz : Nat) (p1 : Int32) : Met l yX12_isSlack wsX12_isSlack ({ frames := 1, cells := 0, slots := 0, locals := 25 } : Room) (PcK D κ β [] sz [.int p1]) (QiK D (fun (r : Int32) (u : Unit) => (r.toInt = 1 ∧ 0 ≤ p1.toInt ∧ p1.toInt ≤ 99) ∨ (r.toInt = 0 ∧ (p1.toInt < 0 ∨ 99 < p1.toInt))) (fun (u : Unit) => []) [] sz) 0 0 (va_A [] sz) := by
  refine ofK_z (cc := cX12_isSlack) (maxL := 1) (own := RX12) (by decide) rfl rfl (Nat.le_of_ble_eq_true rfl) ?_
  intro p e s m args below meth c Q A ls hsz hx hb hml hts hown hK hA hAB hP hD hl ret
  have hS : va_S A s.heap s.heap [] := va_S.rf
  have hl : lv_has ls 1 [(0, .int p1)] := hl
  have w0 := hts (.constantLong RX12 145 (99)) (List.mem_of_getElem? (i := 1) rfl)
  have l0 : (0 : Int64).toInt = 0 := by decide
  have l1 : (99 : Int64).toInt = 99 := by decide
  refine lv_iload_n hx hb dX12_isSlack_0 rfl (lv_at hl 0 rfl) ?_
  refine lv_i2l hx hb dX12_isSlack_1 rfl ?_
  refine lv_topl (fun x1 e2 => ?_)
  have h3 : x1.toInt = p1.toInt := cl_i2l e2
  refine lv_lconst (v := (0 : Int64)) hx hb dX12_isSlack_2 (by decide) ?_
  refine lv_ldc2 (v := (99 : Int64)) hx hb hown w0 dX12_isSlack_3 ?_
  refine kcm_i hA hAB hP hD hS [] rfl (fun _ => rfl) (fun hPc hDc => va_runS (As := [.long x1, .long (0 : Int64), .long (99 : Int64)]) (rest := []) ⟨hx, hb, hml, hown, hts⟩ (k_X12_within l D κ β s.heap.size x1 (0 : Int64) (99 : Int64)) (va_cwS 3 hts gX12_isSlack_X12_within rfl rfl rfl (by decide +kernel) ⟨Nat.le_of_ble_eq_true rfl, Nat.le_of_ble_eq_true rfl⟩) (pk_S hK hS hAB hPc hDc) rfl rfl hl.1 rfl (lv_room (Nat.le_of_ble_eq_true rfl)) dX12_isSlack_6 ⟨Nat.le_of_ble_eq_true rfl, Nat.le_of_ble_eq_true rfl⟩) (fun x4 u5 H locs hw hPD hS => ?_)
  have h6 : (x4.toInt = 1 ∧ (0 : Int64).toInt ≤ x1.toInt ∧ x1.toInt ≤ (99 : Int64).toInt) ∨ (x4.toInt = 0 ∧ (x1.toInt < (0 : Int64).toInt ∨ (99 : Int64).toInt < x1.toInt)) := hw
  obtain ⟨hP, hD⟩ : PD D A [] H := hPD
  have hpo : (x4.toInt = 1 ∧ 0 ≤ p1.toInt ∧ p1.toInt ≤ 99) ∨ (x4.toInt = 0 ∧ (p1.toInt < 0 ∨ 99 < p1.toInt)) := (by omega)
  exact ret _ _ _ _ x4 () dX12_isSlack_9 (by omega) hpo hP hD hS
set_option maxHeartbeats 4000000 in
set_option maxRecDepth 100000 in
theorem k_X12_isInk (l : Launch) (D : va_G) (κ : Nat → ClassId) (β : Nat) (sz : Nat) (p1 : Int32) : Met l yX12_isInk wsX12_isInk ({ frames := 1, cells := 0, slots := 0, locals := 25 } : Room) (PcK D κ β [] sz [.int p1]) (QiK D (fun (r : Int32) (u : Unit) => (r.toInt = 1 ∧ 0 ≤ p1.toInt ∧ p1.toInt ≤ 5) ∨ (r.toInt = 0 ∧ (p1.toInt < 0 ∨ 5 < p1.toInt))) (fun (u : Unit) => []) [] sz) 0 0 (va_A [] sz) := by
  refine ofK_z (cc := cX12_isInk) (maxL := 1) (own := RX12) (by decide) rfl rfl (Nat.le_of_ble_eq_true rfl) ?_
  intro p e s m args below meth c Q A ls hsz hx hb hml hts hown hK hA hAB hP hD hl ret
  have hS : va_S A s.heap s.heap [] := va_S.rf
  have hl : lv_has ls 1 [(0, .int p1)] := hl
  have w0 := hts (.constantLong RX12 195 (5)) (List.mem_of_getElem? (i := 1) rfl)
  have l0 : (0 : Int64).toInt = 0 := by decide
  have l1 : (5 : Int64).toInt = 5 := by decide
  refine lv_iload_n hx hb dX12_isInk_0 rfl (lv_at hl 0 rfl) ?_
  refine lv_i2l hx hb dX12_isInk_1 rfl ?_
  refine lv_topl (fun x1 e2 => ?_)
  have h3 : x1.toInt = p1.toInt := cl_i2l e2
  refine lv_lconst (v := (0 : Int64)) hx hb dX12_isInk_2 (by decide) ?_
  refine lv_ldc2 (v := (5 : Int64)) hx hb hown w0 dX12_isInk_3 ?_
  refine kcm_i hA hAB hP hD hS [] rfl (fun _ => rfl) (fun hPc hDc => va_runS (As := [.long x1, .long (0 : Int64), .long (5 : Int64)]) (rest := []) ⟨hx, hb, hml, hown, hts⟩ (k_X12_within l D κ β s.heap.size x1 (0 : Int64) (5 : Int64)) (va_cwS 3 hts gX12_isInk_X12_within rfl rfl rfl (by decide +kernel) ⟨Nat.le_of_ble_eq_true rfl, Nat.le_of_ble_eq_true rfl⟩) (pk_S hK hS hAB hPc hDc) rfl rfl hl.1 rfl (lv_room (Nat.le_of_ble_eq_true rfl)) dX12_isInk_6 ⟨Nat.le_of_ble_eq_true rfl, Nat.le_of_ble_eq_true rfl⟩) (fun x4 u5 H locs hw hPD hS => ?_)
  have h6 : (x4.toInt = 1 ∧ (0 : Int64).toInt ≤ x1.toInt ∧ x1.toInt ≤ (5 : Int64).toInt) ∨ (x4.toInt = 0 ∧ (x1.toInt < (0 : Int64).toInt ∨ (5 : Int64).toInt < x1.toInt)) := hw
  obtain ⟨hP, hD⟩ : PD D A [] H := hPD
  have hpo : (x4.toInt = 1 ∧ 0 ≤ p1.toInt ∧ p1.toInt ≤ 5) ∨ (x4.toInt = 0 ∧ (p1.toInt < 0 ∨ 5 < p1.toInt)) := (by omega)
  exact ret _ _ _ _ x4 () dX12_isInk_9 (by omega) hpo hP hD hS
set_option maxHeartbeats 4000000 in
set_option maxRecDepth 100000 in
theorem k_X12_isDot (l : Launch) (D : va_G) (κ : Nat → ClassId) (β : Nat) (sz : Nat) (p1 : Int32) (p2 : Int32) (p3 : Int32) : Met l yX12_isDot wsX12_isDot ({ frames := 1, cells := 0, slots := 0, locals := 25 } : Room) (PcK D κ β [] sz [.int p1, .int p2, .int p3]) (QiK D (fun (r : Int32) (u : Unit) => (r.toInt = 1 ∧ 0 ≤ p1.toInt ∧ p1.toInt ≤ 4 ∧ 0 ≤ p2.toInt ∧ p2.toInt ≤ 7 ∧ 0 ≤ p3.toInt ∧ p3.toInt ≤ 9999) ∨ (r.toInt = 0 ∧ (p1.toInt < 0 ∨ 4 < p1.toInt ∨ p2.toInt < 0 ∨ 7 < p2.toInt ∨ p3.toInt < 0 ∨ 9999 < p3.toInt))) (fun (u : Unit) => []) [] sz) 0 0 (va_A [] sz) := by
  refine ofK_z (cc := cX12_isDot) (maxL := 3) (own := RX12) (by decide) rfl rfl (Nat.le_of_ble_eq_true rfl) ?_
  intro p e s m args below meth c Q A ls hsz hx hb hml hts hown hK hA hAB hP hD hl ret
  have hS : va_S A s.heap s.heap [] := va_S.rf
  have hl : lv_has ls 3 [(0, .int p1), (1, .int p2), (2, .int p3)] := hl
  have w0 := hts (.constantLong RX12 221 (4)) (List.mem_of_getElem? (i := 1) rfl)
  have w1 := hts (.constantLong RX12 223 (7)) (List.mem_of_getElem? (i := 2) rfl)
  have w2 := hts (.constantLong RX12 225 (9999)) (List.mem_of_getElem? (i := 3) rfl)
  have l0 : (0 : Int64).toInt = 0 := by decide
  have l1 : (4 : Int64).toInt = 4 := by decide
  have l2 : (0 : Int32).toInt = 0 := by decide
  have l3 : (7 : Int64).toInt = 7 := by decide
  have l4 : (9999 : Int64).toInt = 9999 := by decide
  have l5 : (1 : Int32).toInt = 1 := by decide
  refine lv_iload_n hx hb dX12_isDot_0 rfl (lv_at hl 0 rfl) ?_
  refine lv_i2l hx hb dX12_isDot_1 rfl ?_
  refine lv_topl (fun x1 e2 => ?_)
  have h3 : x1.toInt = p1.toInt := cl_i2l e2
  refine lv_lconst (v := (0 : Int64)) hx hb dX12_isDot_2 (by decide) ?_
  refine lv_ldc2 (v := (4 : Int64)) hx hb hown w0 dX12_isDot_3 ?_
  refine kcm_i hA hAB hP hD hS [] rfl (fun _ => rfl) (fun hPc hDc => va_runS (As := [.long x1, .long (0 : Int64), .long (4 : Int64)]) (rest := []) ⟨hx, hb, hml, hown, hts⟩ (k_X12_within l D κ β s.heap.size x1 (0 : Int64) (4 : Int64)) (va_cwS 3 hts gX12_isDot_X12_within rfl rfl rfl (by decide +kernel) ⟨Nat.le_of_ble_eq_true rfl, Nat.le_of_ble_eq_true rfl⟩) (pk_S hK hS hAB hPc hDc) rfl rfl hl.1 rfl (lv_room (Nat.le_of_ble_eq_true rfl)) dX12_isDot_6 ⟨Nat.le_of_ble_eq_true rfl, Nat.le_of_ble_eq_true rfl⟩) (fun x4 u5 H locs hw hPD hS => ?_)
  have h6 : (x4.toInt = 1 ∧ (0 : Int64).toInt ≤ x1.toInt ∧ x1.toInt ≤ (4 : Int64).toInt) ∨ (x4.toInt = 0 ∧ (x1.toInt < (0 : Int64).toInt ∨ (4 : Int64).toInt < x1.toInt)) := hw
  obtain ⟨hP, hD⟩ : PD D A [] H := hPD
  refine lv_if_eq (tgt := 40) hx hb dX12_isDot_9 (by decide) (fun c7 => ?_) (fun c7 => ?_)
  · have c7 := ci_eq c7
    refine lv_iconst (v := 0) hx hb dX12_isDot_40 (by decide) ?_
    have hpo : ((0 : Int32).toInt = 1 ∧ 0 ≤ p1.toInt ∧ p1.toInt ≤ 4 ∧ 0 ≤ p2.toInt ∧ p2.toInt ≤ 7 ∧ 0 ≤ p3.toInt ∧ p3.toInt ≤ 9999) ∨ ((0 : Int32).toInt = 0 ∧ (p1.toInt < 0 ∨ 4 < p1.toInt ∨ p2.toInt < 0 ∨ 7 < p2.toInt ∨ p3.toInt < 0 ∨ 9999 < p3.toInt)) := (by omega)
    exact ret _ _ _ _ 0 () dX12_isDot_41 (by omega) hpo hP hD hS
  have c7 := ci_ne c7
  refine lv_iload_n hx hb dX12_isDot_12 rfl (lv_at hl 1 rfl) ?_
  refine lv_i2l hx hb dX12_isDot_13 rfl ?_
  refine lv_topl (fun x8 e9 => ?_)
  have h10 : x8.toInt = p2.toInt := cl_i2l e9
  refine lv_lconst (v := (0 : Int64)) hx hb dX12_isDot_14 (by decide) ?_
  refine lv_ldc2 (v := (7 : Int64)) hx hb hown w1 dX12_isDot_15 ?_
  refine kcm_i hA hAB hP hD hS [] rfl (fun _ => rfl) (fun hPc hDc => va_runS (As := [.long x8, .long (0 : Int64), .long (7 : Int64)]) (rest := []) ⟨hx, hb, hml, hown, hts⟩ (k_X12_within l D κ β H.size x8 (0 : Int64) (7 : Int64)) (va_cwS 3 hts gX12_isDot_X12_within rfl rfl rfl (by decide +kernel) ⟨Nat.le_of_ble_eq_true rfl, Nat.le_of_ble_eq_true rfl⟩) (pk_S hK hS hAB hPc hDc) rfl rfl hl.1 rfl (lv_room (Nat.le_of_ble_eq_true rfl)) dX12_isDot_18 ⟨Nat.le_of_ble_eq_true rfl, Nat.le_of_ble_eq_true rfl⟩) (fun x11 u12 H locs hw hPD hS => ?_)
  have h13 : (x11.toInt = 1 ∧ (0 : Int64).toInt ≤ x8.toInt ∧ x8.toInt ≤ (7 : Int64).toInt) ∨ (x11.toInt = 0 ∧ (x8.toInt < (0 : Int64).toInt ∨ (7 : Int64).toInt < x8.toInt)) := hw
  obtain ⟨hP, hD⟩ : PD D A [] H := hPD
  refine lv_if_eq (tgt := 40) hx hb dX12_isDot_21 (by decide) (fun c14 => ?_) (fun c14 => ?_)
  · have c14 := ci_eq c14
    refine lv_iconst (v := 0) hx hb dX12_isDot_40 (by decide) ?_
    have hpo : ((0 : Int32).toInt = 1 ∧ 0 ≤ p1.toInt ∧ p1.toInt ≤ 4 ∧ 0 ≤ p2.toInt ∧ p2.toInt ≤ 7 ∧ 0 ≤ p3.toInt ∧ p3.toInt ≤ 9999) ∨ ((0 : Int32).toInt = 0 ∧ (p1.toInt < 0 ∨ 4 < p1.toInt ∨ p2.toInt < 0 ∨ 7 < p2.toInt ∨ p3.toInt < 0 ∨ 9999 < p3.toInt)) := (by omega)
    exact ret _ _ _ _ 0 () dX12_isDot_41 (by omega) hpo hP hD hS
  have c14 := ci_ne c14
  refine lv_iload_n hx hb dX12_isDot_24 rfl (lv_at hl 2 rfl) ?_
  refine lv_i2l hx hb dX12_isDot_25 rfl ?_
  refine lv_topl (fun x15 e16 => ?_)
  have h17 : x15.toInt = p3.toInt := cl_i2l e16
  refine lv_lconst (v := (0 : Int64)) hx hb dX12_isDot_26 (by decide) ?_
  refine lv_ldc2 (v := (9999 : Int64)) hx hb hown w2 dX12_isDot_27 ?_
  refine kcm_i hA hAB hP hD hS [] rfl (fun _ => rfl) (fun hPc hDc => va_runS (As := [.long x15, .long (0 : Int64), .long (9999 : Int64)]) (rest := []) ⟨hx, hb, hml, hown, hts⟩ (k_X12_within l D κ β H.size x15 (0 : Int64) (9999 : Int64)) (va_cwS 3 hts gX12_isDot_X12_within rfl rfl rfl (by decide +kernel) ⟨Nat.le_of_ble_eq_true rfl, Nat.le_of_ble_eq_true rfl⟩) (pk_S hK hS hAB hPc hDc) rfl rfl hl.1 rfl (lv_room (Nat.le_of_ble_eq_true rfl)) dX12_isDot_30 ⟨Nat.le_of_ble_eq_true rfl, Nat.le_of_ble_eq_true rfl⟩) (fun x18 u19 H locs hw hPD hS => ?_)
  have h20 : (x18.toInt = 1 ∧ (0 : Int64).toInt ≤ x15.toInt ∧ x15.toInt ≤ (9999 : Int64).toInt) ∨ (x18.toInt = 0 ∧ (x15.toInt < (0 : Int64).toInt ∨ (9999 : Int64).toInt < x15.toInt)) := hw
  obtain ⟨hP, hD⟩ : PD D A [] H := hPD
  refine lv_if_eq (tgt := 40) hx hb dX12_isDot_33 (by decide) (fun c21 => ?_) (fun c21 => ?_)
  · have c21 := ci_eq c21
    refine lv_iconst (v := 0) hx hb dX12_isDot_40 (by decide) ?_
    have hpo : ((0 : Int32).toInt = 1 ∧ 0 ≤ p1.toInt ∧ p1.toInt ≤ 4 ∧ 0 ≤ p2.toInt ∧ p2.toInt ≤ 7 ∧ 0 ≤ p3.toInt ∧ p3.toInt ≤ 9999) ∨ ((0 : Int32).toInt = 0 ∧ (p1.toInt < 0 ∨ 4 < p1.toInt ∨ p2.toInt < 0 ∨ 7 < p2.toInt ∨ p3.toInt < 0 ∨ 9999 < p3.toInt)) := (by omega)
    exact ret _ _ _ _ 0 () dX12_isDot_41 (by omega) hpo hP hD hS
  have c21 := ci_ne c21
  refine lv_iconst (v := 1) hx hb dX12_isDot_36 (by decide) ?_
  refine lv_goto (tgt := 41) hx hb dX12_isDot_37 (by decide) ?_
  have hpo : ((1 : Int32).toInt = 1 ∧ 0 ≤ p1.toInt ∧ p1.toInt ≤ 4 ∧ 0 ≤ p2.toInt ∧ p2.toInt ≤ 7 ∧ 0 ≤ p3.toInt ∧ p3.toInt ≤ 9999) ∨ ((1 : Int32).toInt = 0 ∧ (p1.toInt < 0 ∨ 4 < p1.toInt ∨ p2.toInt < 0 ∨ 7 < p2.toInt ∨ p3.toInt < 0 ∨ 9999 < p3.toInt)) := (by omega)
  exact ret _ _ _ _ 1 () dX12_isDot_41 (by omega) hpo hP hD hS
set_option maxHeartbeats 4000000 in
set_option maxRecDepth 100000 in
theorem k_X12_isShelf (l : Launch) (D : va_G) (κ : Nat → ClassId) (β : Nat) (sz : Nat) (p1 : Int32) : Met l yX12_isShelf wsX12_isShelf ({ frames := 1, cells := 0, slots := 0, locals := 25 } : Room) (PcK D κ β [] sz [.int p1]) (QiK D (fun (r : Int32) (u : Unit) => (r.toInt = 1 ∧ 0 ≤ p1.toInt ∧ p1.toInt ≤ 5) ∨ (r.toInt = 0 ∧ (p1.toInt < 0 ∨ 5 < p1.toInt))) (fun (u : Unit) => []) [] sz) 0 0 (va_A [] sz) := by
  refine ofK_z (cc := cX12_isShelf) (maxL := 1) (own := RX12) (by decide) rfl rfl (Nat.le_of_ble_eq_true rfl) ?_
  intro p e s m args below meth c Q A ls hsz hx hb hml hts hown hK hA hAB hP hD hl ret
  have hS : va_S A s.heap s.heap [] := va_S.rf
  have hl : lv_has ls 1 [(0, .int p1)] := hl
  have w0 := hts (.constantLong RX12 195 (5)) (List.mem_of_getElem? (i := 1) rfl)
  have l0 : (0 : Int64).toInt = 0 := by decide
  have l1 : (5 : Int64).toInt = 5 := by decide
  refine lv_iload_n hx hb dX12_isShelf_0 rfl (lv_at hl 0 rfl) ?_
  refine lv_i2l hx hb dX12_isShelf_1 rfl ?_
  refine lv_topl (fun x1 e2 => ?_)
  have h3 : x1.toInt = p1.toInt := cl_i2l e2
  refine lv_lconst (v := (0 : Int64)) hx hb dX12_isShelf_2 (by decide) ?_
  refine lv_ldc2 (v := (5 : Int64)) hx hb hown w0 dX12_isShelf_3 ?_
  refine kcm_i hA hAB hP hD hS [] rfl (fun _ => rfl) (fun hPc hDc => va_runS (As := [.long x1, .long (0 : Int64), .long (5 : Int64)]) (rest := []) ⟨hx, hb, hml, hown, hts⟩ (k_X12_within l D κ β s.heap.size x1 (0 : Int64) (5 : Int64)) (va_cwS 3 hts gX12_isShelf_X12_within rfl rfl rfl (by decide +kernel) ⟨Nat.le_of_ble_eq_true rfl, Nat.le_of_ble_eq_true rfl⟩) (pk_S hK hS hAB hPc hDc) rfl rfl hl.1 rfl (lv_room (Nat.le_of_ble_eq_true rfl)) dX12_isShelf_6 ⟨Nat.le_of_ble_eq_true rfl, Nat.le_of_ble_eq_true rfl⟩) (fun x4 u5 H locs hw hPD hS => ?_)
  have h6 : (x4.toInt = 1 ∧ (0 : Int64).toInt ≤ x1.toInt ∧ x1.toInt ≤ (5 : Int64).toInt) ∨ (x4.toInt = 0 ∧ (x1.toInt < (0 : Int64).toInt ∨ (5 : Int64).toInt < x1.toInt)) := hw
  obtain ⟨hP, hD⟩ : PD D A [] H := hPD
  have hpo : (x4.toInt = 1 ∧ 0 ≤ p1.toInt ∧ p1.toInt ≤ 5) ∨ (x4.toInt = 0 ∧ (p1.toInt < 0 ∨ 5 < p1.toInt)) := (by omega)
  exact ret _ _ _ _ x4 () dX12_isShelf_9 (by omega) hpo hP hD hS
set_option maxHeartbeats 4000000 in
set_option maxRecDepth 100000 in
theorem k_X12_isMap (l : Launch) (D : va_G) (κ : Nat → ClassId) (β : Nat) (a12 : Nat) (r12 : Nat → Nat) (v12_keptMany : Int32) (v12_done : Int32) (v12_sheets : Int32) (v12_holes : Int32) (v12_worms : Int32) (v12_laidMany : Int32) (v12_wanted : Int32) (v12_orderMany : Int32) (v12_firstOrder : Int32) (v12_lines : Int32) (v12_marks : Int32) (v12_dots : Int32) (v12_madeIn : Int32) (v12_bound : Int32) (v12_places : Int32) (v12_maps : Int32) (v12_tapeMany : Int32) (v12_stories : Int32) (v12_base : Int32) (v12_at : Int32) (v12_ends : Int32) (v12_fault : Int32) (v12_opened : Int32) (v12_bodies : Int32) (v12_ran : Int32) (v12_ownKind : Int32) (v12_ownNumber : Int32) (sz : Nat) (p1 : Int32) (i1 : Rg 0 40 v12_keptMany) (i2 : Rg 0 40 v12_done) (i3 : Rg 0 8 v12_sheets) (i4 : Rg 0 40 v12_holes) (i5 : Rg 0 40 v12_worms) (i6 : Rg 0 8 v12_laidMany) (i7 : Rg 0 8 v12_wanted) (i8 : Rg 0 20 v12_lines) (i9 : Rg 0 60 v12_marks) (i10 : Rg 0 40 v12_dots) (i11 : Rg 0 20 v12_places) (i12 : Rg 0 8 v12_maps) (i13 : Rg 0 120 v12_tapeMany) (i14 : Rg 0 6 v12_stories) (i15 : Rg 0 50 v12_bodies) (i16 : Rg 0 1000 v12_ran) (i17 : v12_done.toInt ≤ v12_keptMany.toInt) : Met l yX12_isMap wsX12_isMap ({ frames := 1, cells := 0, slots := 0, locals := 25 } : Room) (PcK D κ β [O12 a12 r12 v12_keptMany v12_done v12_sheets v12_holes v12_worms v12_laidMany v12_wanted v12_orderMany v12_firstOrder v12_lines v12_marks v12_dots v12_madeIn v12_bound v12_places v12_maps v12_tapeMany v12_stories v12_base v12_at v12_ends v12_fault v12_opened v12_bodies v12_ran v12_ownKind v12_ownNumber] sz [.ref a12, .int p1]) (QiK D (fun (r : Int32) (u : Unit) => (r.toInt = 1 ∧ 0 ≤ p1.toInt ∧ p1.toInt < v12_maps.toInt) ∨ (r.toInt = 0 ∧ (p1.toInt < 0 ∨ v12_maps.toInt ≤ p1.toInt))) (fun (u : Unit) => [O12 a12 r12 v12_keptMany v12_done v12_sheets v12_holes v12_worms v12_laidMany v12_wanted v12_orderMany v12_firstOrder v12_lines v12_marks v12_dots v12_madeIn v12_bound v12_places v12_maps v12_tapeMany v12_stories v12_base v12_at v12_ends v12_fault v12_opened v12_bodies v12_ran v12_ownKind v12_ownNumber]) [O12 a12 r12 v12_keptMany v12_done v12_sheets v12_holes v12_worms v12_laidMany v12_wanted v12_orderMany v12_firstOrder v12_lines v12_marks v12_dots v12_madeIn v12_bound v12_places v12_maps v12_tapeMany v12_stories v12_base v12_at v12_ends v12_fault v12_opened v12_bodies v12_ran v12_ownKind v12_ownNumber] sz) 0 0 (va_A [O12 a12 r12 v12_keptMany v12_done v12_sheets v12_holes v12_worms v12_laidMany v12_wanted v12_orderMany v12_firstOrder v12_lines v12_marks v12_dots v12_madeIn v12_bound v12_places v12_maps v12_tapeMany v12_stories v12_base v12_at v12_ends v12_fault v12_opened v12_bodies v12_ran v12_ownKind v12_ownNumber] sz) := by
  refine ofK_z (cc := cX12_isMap) (maxL := 2) (own := RX12) (by decide) rfl rfl (Nat.le_of_ble_eq_true rfl) ?_
  intro p e s m args below meth c Q A ls hsz hx hb hml hts hown hK hA hAB hP hD hl ret
  have hS : va_S A s.heap s.heap [] := va_S.rf
  have hl : lv_has ls 2 [(0, .ref a12), (1, .int p1)] := hl
  have w0 := hts (.fieldLink RX12 277 "OlderSkinModel" "maps" "I") (List.mem_of_getElem? (i := 1) rfl)
  have w1 := (fun w h => List.mem_cons_of_mem _ (List.mem_append_right _ h) : ∀ w ∈ u_ws RX12 TX12 63, w ∈ wsX12_isMap)
  have l0 : (0 : Int64).toInt = 0 := by decide
  have l1 : (1 : Int32).toInt = 1 := by decide
  have i12 : 0 ≤ v12_maps.toInt ∧ v12_maps.toInt ≤ 8 := i12
  refine lv_iload_n hx hb dX12_isMap_0 rfl (lv_at hl 1 rfl) ?_
  refine lv_i2l hx hb dX12_isMap_1 rfl ?_
  refine lv_topl (fun x1 e2 => ?_)
  have h3 : x1.toInt = p1.toInt := cl_i2l e2
  refine lv_lconst (v := (0 : Int64)) hx hb dX12_isMap_2 (by decide) ?_
  refine lv_aload_n hx hb dX12_isMap_3 rfl (lv_at hl 0 rfl) ?_
  refine va_get (D := D) (ci := 12) (v := .int v12_maps) (C := RX12) (T := TX12) (N := 63) hx hb hts w1 hown hK.1 hP 0 rfl rfl 38 (by decide) w0 (fun _ h9 => h9) rfl dX12_isMap_4 ?_
  refine lv_iconst (v := 1) hx hb dX12_isMap_7 (by decide) ?_
  refine lv_isub hx hb dX12_isMap_8 ?_
  refine lv_topi (fun x4 e5 => ?_)
  try have h6 : x4.toInt = v12_maps.toInt - (1 : Int32).toInt := ci_sub e5 (by omega) (by omega)
  refine lv_i2l hx hb dX12_isMap_9 rfl ?_
  refine lv_topl (fun x7 e8 => ?_)
  have h9 : x7.toInt = x4.toInt := cl_i2l e8
  refine kcm_i hA hAB hP hD hS [false] rfl (fun _ => rfl) (fun hPc hDc => va_runS (As := [.long x1, .long (0 : Int64), .long x7]) (rest := []) ⟨hx, hb, hml, hown, hts⟩ (k_X12_within l D κ β s.heap.size x1 (0 : Int64) x7) (va_cwS 3 hts gX12_isMap_X12_within rfl rfl rfl (by decide +kernel) ⟨Nat.le_of_ble_eq_true rfl, Nat.le_of_ble_eq_true rfl⟩) (pk_S hK hS hAB hPc hDc) rfl rfl hl.1 rfl (lv_room (Nat.le_of_ble_eq_true rfl)) dX12_isMap_10 ⟨Nat.le_of_ble_eq_true rfl, Nat.le_of_ble_eq_true rfl⟩) (fun x10 u11 H locs hw hPD hS => ?_)
  have h12 : (x10.toInt = 1 ∧ (0 : Int64).toInt ≤ x1.toInt ∧ x1.toInt ≤ x7.toInt) ∨ (x10.toInt = 0 ∧ (x1.toInt < (0 : Int64).toInt ∨ x7.toInt < x1.toInt)) := hw
  obtain ⟨hP, hD⟩ : PD D A [O12 a12 r12 v12_keptMany v12_done v12_sheets v12_holes v12_worms v12_laidMany v12_wanted v12_orderMany v12_firstOrder v12_lines v12_marks v12_dots v12_madeIn v12_bound v12_places v12_maps v12_tapeMany v12_stories v12_base v12_at v12_ends v12_fault v12_opened v12_bodies v12_ran v12_ownKind v12_ownNumber] H := hPD
  have hpo : (x10.toInt = 1 ∧ 0 ≤ p1.toInt ∧ p1.toInt < v12_maps.toInt) ∨ (x10.toInt = 0 ∧ (p1.toInt < 0 ∨ v12_maps.toInt ≤ p1.toInt)) := (by omega)
  exact ret _ _ _ _ x10 () dX12_isMap_13 (by omega) hpo hP hD hS
set_option maxHeartbeats 4000000 in
set_option maxRecDepth 100000 in
theorem k_X12_isStory (l : Launch) (D : va_G) (κ : Nat → ClassId) (β : Nat) (a12 : Nat) (r12 : Nat → Nat) (v12_keptMany : Int32) (v12_done : Int32) (v12_sheets : Int32) (v12_holes : Int32) (v12_worms : Int32) (v12_laidMany : Int32) (v12_wanted : Int32) (v12_orderMany : Int32) (v12_firstOrder : Int32) (v12_lines : Int32) (v12_marks : Int32) (v12_dots : Int32) (v12_madeIn : Int32) (v12_bound : Int32) (v12_places : Int32) (v12_maps : Int32) (v12_tapeMany : Int32) (v12_stories : Int32) (v12_base : Int32) (v12_at : Int32) (v12_ends : Int32) (v12_fault : Int32) (v12_opened : Int32) (v12_bodies : Int32) (v12_ran : Int32) (v12_ownKind : Int32) (v12_ownNumber : Int32) (sz : Nat) (p1 : Int32) (i1 : Rg 0 40 v12_keptMany) (i2 : Rg 0 40 v12_done) (i3 : Rg 0 8 v12_sheets) (i4 : Rg 0 40 v12_holes) (i5 : Rg 0 40 v12_worms) (i6 : Rg 0 8 v12_laidMany) (i7 : Rg 0 8 v12_wanted) (i8 : Rg 0 20 v12_lines) (i9 : Rg 0 60 v12_marks) (i10 : Rg 0 40 v12_dots) (i11 : Rg 0 20 v12_places) (i12 : Rg 0 8 v12_maps) (i13 : Rg 0 120 v12_tapeMany) (i14 : Rg 0 6 v12_stories) (i15 : Rg 0 50 v12_bodies) (i16 : Rg 0 1000 v12_ran) (i17 : v12_done.toInt ≤ v12_keptMany.toInt) : Met l yX12_isStory wsX12_isStory ({ frames := 1, cells := 0, slots := 0, locals := 25 } : Room) (PcK D κ β [O12 a12 r12 v12_keptMany v12_done v12_sheets v12_holes v12_worms v12_laidMany v12_wanted v12_orderMany v12_firstOrder v12_lines v12_marks v12_dots v12_madeIn v12_bound v12_places v12_maps v12_tapeMany v12_stories v12_base v12_at v12_ends v12_fault v12_opened v12_bodies v12_ran v12_ownKind v12_ownNumber] sz [.ref a12, .int p1]) (QiK D (fun (r : Int32) (u : Unit) => (r.toInt = 1 ∧ 0 ≤ p1.toInt ∧ p1.toInt < v12_stories.toInt) ∨ (r.toInt = 0 ∧ (p1.toInt < 0 ∨ v12_stories.toInt ≤ p1.toInt))) (fun (u : Unit) => [O12 a12 r12 v12_keptMany v12_done v12_sheets v12_holes v12_worms v12_laidMany v12_wanted v12_orderMany v12_firstOrder v12_lines v12_marks v12_dots v12_madeIn v12_bound v12_places v12_maps v12_tapeMany v12_stories v12_base v12_at v12_ends v12_fault v12_opened v12_bodies v12_ran v12_ownKind v12_ownNumber]) [O12 a12 r12 v12_keptMany v12_done v12_sheets v12_holes v12_worms v12_laidMany v12_wanted v12_orderMany v12_firstOrder v12_lines v12_marks v12_dots v12_madeIn v12_bound v12_places v12_maps v12_tapeMany v12_stories v12_base v12_at v12_ends v12_fault v12_opened v12_bodies v12_ran v12_ownKind v12_ownNumber] sz) 0 0 (va_A [O12 a12 r12 v12_keptMany v12_done v12_sheets v12_holes v12_worms v12_laidMany v12_wanted v12_orderMany v12_firstOrder v12_lines v12_marks v12_dots v12_madeIn v12_bound v12_places v12_maps v12_tapeMany v12_stories v12_base v12_at v12_ends v12_fault v12_opened v12_bodies v12_ran v12_ownKind v12_ownNumber] sz) := by
  refine ofK_z (cc := cX12_isStory) (maxL := 2) (own := RX12) (by decide) rfl rfl (Nat.le_of_ble_eq_true rfl) ?_
  intro p e s m args below meth c Q A ls hsz hx hb hml hts hown hK hA hAB hP hD hl ret
  have hS : va_S A s.heap s.heap [] := va_S.rf
  have hl : lv_has ls 2 [(0, .ref a12), (1, .int p1)] := hl
  have w0 := hts (.fieldLink RX12 342 "OlderSkinModel" "stories" "I") (List.mem_of_getElem? (i := 1) rfl)
  have w1 := (fun w h => List.mem_cons_of_mem _ (List.mem_append_right _ h) : ∀ w ∈ u_ws RX12 TX12 63, w ∈ wsX12_isStory)
  have l0 : (0 : Int64).toInt = 0 := by decide
  have l1 : (1 : Int32).toInt = 1 := by decide
  have i14 : 0 ≤ v12_stories.toInt ∧ v12_stories.toInt ≤ 6 := i14
  refine lv_iload_n hx hb dX12_isStory_0 rfl (lv_at hl 1 rfl) ?_
  refine lv_i2l hx hb dX12_isStory_1 rfl ?_
  refine lv_topl (fun x1 e2 => ?_)
  have h3 : x1.toInt = p1.toInt := cl_i2l e2
  refine lv_lconst (v := (0 : Int64)) hx hb dX12_isStory_2 (by decide) ?_
  refine lv_aload_n hx hb dX12_isStory_3 rfl (lv_at hl 0 rfl) ?_
  refine va_get (D := D) (ci := 12) (v := .int v12_stories) (C := RX12) (T := TX12) (N := 63) hx hb hts w1 hown hK.1 hP 0 rfl rfl 43 (by decide) w0 (fun _ h9 => h9) rfl dX12_isStory_4 ?_
  refine lv_iconst (v := 1) hx hb dX12_isStory_7 (by decide) ?_
  refine lv_isub hx hb dX12_isStory_8 ?_
  refine lv_topi (fun x4 e5 => ?_)
  try have h6 : x4.toInt = v12_stories.toInt - (1 : Int32).toInt := ci_sub e5 (by omega) (by omega)
  refine lv_i2l hx hb dX12_isStory_9 rfl ?_
  refine lv_topl (fun x7 e8 => ?_)
  have h9 : x7.toInt = x4.toInt := cl_i2l e8
  refine kcm_i hA hAB hP hD hS [false] rfl (fun _ => rfl) (fun hPc hDc => va_runS (As := [.long x1, .long (0 : Int64), .long x7]) (rest := []) ⟨hx, hb, hml, hown, hts⟩ (k_X12_within l D κ β s.heap.size x1 (0 : Int64) x7) (va_cwS 3 hts gX12_isStory_X12_within rfl rfl rfl (by decide +kernel) ⟨Nat.le_of_ble_eq_true rfl, Nat.le_of_ble_eq_true rfl⟩) (pk_S hK hS hAB hPc hDc) rfl rfl hl.1 rfl (lv_room (Nat.le_of_ble_eq_true rfl)) dX12_isStory_10 ⟨Nat.le_of_ble_eq_true rfl, Nat.le_of_ble_eq_true rfl⟩) (fun x10 u11 H locs hw hPD hS => ?_)
  have h12 : (x10.toInt = 1 ∧ (0 : Int64).toInt ≤ x1.toInt ∧ x1.toInt ≤ x7.toInt) ∨ (x10.toInt = 0 ∧ (x1.toInt < (0 : Int64).toInt ∨ x7.toInt < x1.toInt)) := hw
  obtain ⟨hP, hD⟩ : PD D A [O12 a12 r12 v12_keptMany v12_done v12_sheets v12_holes v12_worms v12_laidMany v12_wanted v12_orderMany v12_firstOrder v12_lines v12_marks v12_dots v12_madeIn v12_bound v12_places v12_maps v12_tapeMany v12_stories v12_base v12_at v12_ends v12_fault v12_opened v12_bodies v12_ran v12_ownKind v12_ownNumber] H := hPD
  have hpo : (x10.toInt = 1 ∧ 0 ≤ p1.toInt ∧ p1.toInt < v12_stories.toInt) ∨ (x10.toInt = 0 ∧ (p1.toInt < 0 ∨ v12_stories.toInt ≤ p1.toInt)) := (by omega)
  exact ret _ _ _ _ x10 () dX12_isStory_13 (by omega) hpo hP hD hS
set_option maxHeartbeats 4000000 in
set_option maxRecDepth 100000 in
theorem k_X12_isBody (l : Launch) (D : va_G) (κ : Nat → ClassId) (β : Nat) (a12 : Nat) (r12 : Nat → Nat) (v12_keptMany : Int32) (v12_done : Int32) (v12_sheets : Int32) (v12_holes : Int32) (v12_worms : Int32) (v12_laidMany : Int32) (v12_wanted : Int32) (v12_orderMany : Int32) (v12_firstOrder : Int32) (v12_lines : Int32) (v12_marks : Int32) (v12_dots : Int32) (v12_madeIn : Int32) (v12_bound : Int32) (v12_places : Int32) (v12_maps : Int32) (v12_tapeMany : Int32) (v12_stories : Int32) (v12_base : Int32) (v12_at : Int32) (v12_ends : Int32) (v12_fault : Int32) (v12_opened : Int32) (v12_bodies : Int32) (v12_ran : Int32) (v12_ownKind : Int32) (v12_ownNumber : Int32) (sz : Nat) (p1 : Int32) (i1 : Rg 0 40 v12_keptMany) (i2 : Rg 0 40 v12_done) (i3 : Rg 0 8 v12_sheets) (i4 : Rg 0 40 v12_holes) (i5 : Rg 0 40 v12_worms) (i6 : Rg 0 8 v12_laidMany) (i7 : Rg 0 8 v12_wanted) (i8 : Rg 0 20 v12_lines) (i9 : Rg 0 60 v12_marks) (i10 : Rg 0 40 v12_dots) (i11 : Rg 0 20 v12_places) (i12 : Rg 0 8 v12_maps) (i13 : Rg 0 120 v12_tapeMany) (i14 : Rg 0 6 v12_stories) (i15 : Rg 0 50 v12_bodies) (i16 : Rg 0 1000 v12_ran) (i17 : v12_done.toInt ≤ v12_keptMany.toInt) : Met l yX12_isBody wsX12_isBody ({ frames := 1, cells := 0, slots := 0, locals := 25 } : Room) (PcK D κ β [O12 a12 r12 v12_keptMany v12_done v12_sheets v12_holes v12_worms v12_laidMany v12_wanted v12_orderMany v12_firstOrder v12_lines v12_marks v12_dots v12_madeIn v12_bound v12_places v12_maps v12_tapeMany v12_stories v12_base v12_at v12_ends v12_fault v12_opened v12_bodies v12_ran v12_ownKind v12_ownNumber] sz [.ref a12, .int p1]) (QiK D (fun (r : Int32) (u : Unit) => (r.toInt = 1 ∧ 0 ≤ p1.toInt ∧ p1.toInt < v12_bodies.toInt) ∨ (r.toInt = 0 ∧ (p1.toInt < 0 ∨ v12_bodies.toInt ≤ p1.toInt))) (fun (u : Unit) => [O12 a12 r12 v12_keptMany v12_done v12_sheets v12_holes v12_worms v12_laidMany v12_wanted v12_orderMany v12_firstOrder v12_lines v12_marks v12_dots v12_madeIn v12_bound v12_places v12_maps v12_tapeMany v12_stories v12_base v12_at v12_ends v12_fault v12_opened v12_bodies v12_ran v12_ownKind v12_ownNumber]) [O12 a12 r12 v12_keptMany v12_done v12_sheets v12_holes v12_worms v12_laidMany v12_wanted v12_orderMany v12_firstOrder v12_lines v12_marks v12_dots v12_madeIn v12_bound v12_places v12_maps v12_tapeMany v12_stories v12_base v12_at v12_ends v12_fault v12_opened v12_bodies v12_ran v12_ownKind v12_ownNumber] sz) 0 0 (va_A [O12 a12 r12 v12_keptMany v12_done v12_sheets v12_holes v12_worms v12_laidMany v12_wanted v12_orderMany v12_firstOrder v12_lines v12_marks v12_dots v12_madeIn v12_bound v12_places v12_maps v12_tapeMany v12_stories v12_base v12_at v12_ends v12_fault v12_opened v12_bodies v12_ran v12_ownKind v12_ownNumber] sz) := by
  refine ofK_z (cc := cX12_isBody) (maxL := 2) (own := RX12) (by decide) rfl rfl (Nat.le_of_ble_eq_true rfl) ?_
  intro p e s m args below meth c Q A ls hsz hx hb hml hts hown hK hA hAB hP hD hl ret
  have hS : va_S A s.heap s.heap [] := va_S.rf
  have hl : lv_has ls 2 [(0, .ref a12), (1, .int p1)] := hl
  have w0 := hts (.fieldLink RX12 379 "OlderSkinModel" "bodies" "I") (List.mem_of_getElem? (i := 1) rfl)
  have w1 := (fun w h => List.mem_cons_of_mem _ (List.mem_append_right _ h) : ∀ w ∈ u_ws RX12 TX12 63, w ∈ wsX12_isBody)
  have l0 : (0 : Int64).toInt = 0 := by decide
  have l1 : (1 : Int32).toInt = 1 := by decide
  have i15 : 0 ≤ v12_bodies.toInt ∧ v12_bodies.toInt ≤ 50 := i15
  refine lv_iload_n hx hb dX12_isBody_0 rfl (lv_at hl 1 rfl) ?_
  refine lv_i2l hx hb dX12_isBody_1 rfl ?_
  refine lv_topl (fun x1 e2 => ?_)
  have h3 : x1.toInt = p1.toInt := cl_i2l e2
  refine lv_lconst (v := (0 : Int64)) hx hb dX12_isBody_2 (by decide) ?_
  refine lv_aload_n hx hb dX12_isBody_3 rfl (lv_at hl 0 rfl) ?_
  refine va_get (D := D) (ci := 12) (v := .int v12_bodies) (C := RX12) (T := TX12) (N := 63) hx hb hts w1 hown hK.1 hP 0 rfl rfl 53 (by decide) w0 (fun _ h9 => h9) rfl dX12_isBody_4 ?_
  refine lv_iconst (v := 1) hx hb dX12_isBody_7 (by decide) ?_
  refine lv_isub hx hb dX12_isBody_8 ?_
  refine lv_topi (fun x4 e5 => ?_)
  try have h6 : x4.toInt = v12_bodies.toInt - (1 : Int32).toInt := ci_sub e5 (by omega) (by omega)
  refine lv_i2l hx hb dX12_isBody_9 rfl ?_
  refine lv_topl (fun x7 e8 => ?_)
  have h9 : x7.toInt = x4.toInt := cl_i2l e8
  refine kcm_i hA hAB hP hD hS [false] rfl (fun _ => rfl) (fun hPc hDc => va_runS (As := [.long x1, .long (0 : Int64), .long x7]) (rest := []) ⟨hx, hb, hml, hown, hts⟩ (k_X12_within l D κ β s.heap.size x1 (0 : Int64) x7) (va_cwS 3 hts gX12_isBody_X12_within rfl rfl rfl (by decide +kernel) ⟨Nat.le_of_ble_eq_true rfl, Nat.le_of_ble_eq_true rfl⟩) (pk_S hK hS hAB hPc hDc) rfl rfl hl.1 rfl (lv_room (Nat.le_of_ble_eq_true rfl)) dX12_isBody_10 ⟨Nat.le_of_ble_eq_true rfl, Nat.le_of_ble_eq_true rfl⟩) (fun x10 u11 H locs hw hPD hS => ?_)
  have h12 : (x10.toInt = 1 ∧ (0 : Int64).toInt ≤ x1.toInt ∧ x1.toInt ≤ x7.toInt) ∨ (x10.toInt = 0 ∧ (x1.toInt < (0 : Int64).toInt ∨ x7.toInt < x1.toInt)) := hw
  obtain ⟨hP, hD⟩ : PD D A [O12 a12 r12 v12_keptMany v12_done v12_sheets v12_holes v12_worms v12_laidMany v12_wanted v12_orderMany v12_firstOrder v12_lines v12_marks v12_dots v12_madeIn v12_bound v12_places v12_maps v12_tapeMany v12_stories v12_base v12_at v12_ends v12_fault v12_opened v12_bodies v12_ran v12_ownKind v12_ownNumber] H := hPD
  have hpo : (x10.toInt = 1 ∧ 0 ≤ p1.toInt ∧ p1.toInt < v12_bodies.toInt) ∨ (x10.toInt = 0 ∧ (p1.toInt < 0 ∨ v12_bodies.toInt ≤ p1.toInt)) := (by omega)
  exact ret _ _ _ _ x10 () dX12_isBody_13 (by omega) hpo hP hD hS
set_option maxHeartbeats 4000000 in
set_option maxRecDepth 100000 in
theorem k_X12_sheet (l : Launch) (D : va_G) (κ : Nat → ClassId) (β : Nat) (a12 : Nat) (r12 : Nat → Nat) (v12_keptMany : Int32) (v12_done : Int32) (v12_sheets : Int32) (v12_holes : Int32) (v12_worms : Int32) (v12_laidMany : Int32) (v12_wanted : Int32) (v12_orderMany : Int32) (v12_firstOrder : Int32) (v12_lines : Int32) (v12_marks : Int32) (v12_dots : Int32) (v12_madeIn : Int32) (v12_bound : Int32) (v12_places : Int32) (v12_maps : Int32) (v12_tapeMany : Int32) (v12_stories : Int32) (v12_base : Int32) (v12_at : Int32) (v12_ends : Int32) (v12_fault : Int32) (v12_opened : Int32) (v12_bodies : Int32) (v12_ran : Int32) (v12_ownKind : Int32) (v12_ownNumber : Int32) (f12_may : Nat → Int32) (sz : Nat) (p1 : Int32) (i1 : Rg 0 40 v12_keptMany) (i2 : Rg 0 40 v12_done) (i3 : Rg 0 8 v12_sheets) (i4 : Rg 0 40 v12_holes) (i5 : Rg 0 40 v12_worms) (i6 : Rg 0 8 v12_laidMany) (i7 : Rg 0 8 v12_wanted) (i8 : Rg 0 20 v12_lines) (i9 : Rg 0 60 v12_marks) (i10 : Rg 0 40 v12_dots) (i11 : Rg 0 20 v12_places) (i12 : Rg 0 8 v12_maps) (i13 : Rg 0 120 v12_tapeMany) (i14 : Rg 0 6 v12_stories) (i15 : Rg 0 50 v12_bodies) (i16 : Rg 0 1000 v12_ran) (i17 : v12_done.toInt ≤ v12_keptMany.toInt) : Met l yX12_sheet wsX12_sheet ({ frames := 2, cells := 0, slots := 0, locals := 45 } : Room) (PcK D κ β [O12 a12 r12 v12_keptMany v12_done v12_sheets v12_holes v12_worms v12_laidMany v12_wanted v12_orderMany v12_firstOrder v12_lines v12_marks v12_dots v12_madeIn v12_bound v12_places v12_maps v12_tapeMany v12_stories v12_base v12_at v12_ends v12_fault v12_opened v12_bodies v12_ran v12_ownKind v12_ownNumber, (cI κ (r12 0) 55 f12_may)] sz [.ref a12, .int p1]) (QiK D (fun (r : Int32) (u : Int32 × (Nat → Int32)) => (0 ≤ u.1.toInt ∧ u.1.toInt ≤ 8) ∧ ((¬ (0 ≤ p1.toInt ∧ p1.toInt ≤ 2000) ∧ r.toInt = -1 ∧ u.1.toInt = v12_sheets.toInt) ∨ ((0 ≤ p1.toInt ∧ p1.toInt ≤ 2000) ∧ v12_sheets.toInt = 8 ∧ r.toInt = -3 ∧ u.1.toInt = v12_sheets.toInt) ∨ ((0 ≤ p1.toInt ∧ p1.toInt ≤ 2000) ∧ v12_sheets.toInt < 8 ∧ r.toInt = v12_sheets.toInt ∧ u.1.toInt = v12_sheets.toInt + 1))) (fun (u : Int32 × (Nat → Int32)) => [O12 a12 r12 v12_keptMany v12_done u.1 v12_holes v12_worms v12_laidMany v12_wanted v12_orderMany v12_firstOrder v12_lines v12_marks v12_dots v12_madeIn v12_bound v12_places v12_maps v12_tapeMany v12_stories v12_base v12_at v12_ends v12_fault v12_opened v12_bodies v12_ran v12_ownKind v12_ownNumber, (cI κ (r12 0) 55 u.2)]) [O12 a12 r12 v12_keptMany v12_done v12_sheets v12_holes v12_worms v12_laidMany v12_wanted v12_orderMany v12_firstOrder v12_lines v12_marks v12_dots v12_madeIn v12_bound v12_places v12_maps v12_tapeMany v12_stories v12_base v12_at v12_ends v12_fault v12_opened v12_bodies v12_ran v12_ownKind v12_ownNumber, (cI κ (r12 0) 55 f12_may)] sz) 0 0 (va_A [O12 a12 r12 v12_keptMany v12_done v12_sheets v12_holes v12_worms v12_laidMany v12_wanted v12_orderMany v12_firstOrder v12_lines v12_marks v12_dots v12_madeIn v12_bound v12_places v12_maps v12_tapeMany v12_stories v12_base v12_at v12_ends v12_fault v12_opened v12_bodies v12_ran v12_ownKind v12_ownNumber, (cI κ (r12 0) 55 f12_may)] sz) := by
  refine ofK_i (cc := cX12_sheet) (maxL := 2) (own := RX12) (by decide) rfl rfl (Nat.le_of_ble_eq_true rfl) ?_
  intro p e s m args below meth c Q A ls hsz hx hb hml hts hown hK hA hAB hP hD hl ret
  have hS : va_S A s.heap s.heap [] := va_S.rf
  have hl : lv_has ls 2 [(0, .ref a12), (1, .int p1)] := hl
  have w0 := hts (.fieldLink RX12 133 "OlderSkinModel" "sheets" "I") (List.mem_of_getElem? (i := 1) rfl)
  have w1 := (fun w h => List.mem_cons_of_mem _ (List.mem_append_right _ h) : ∀ w ∈ u_ws RX12 TX12 63, w ∈ wsX12_sheet)
  have w2 := hts (.fieldLink RX12 9 "OlderSkinModel" "may" "[I") (List.mem_of_getElem? (i := 2) rfl)
  have l0 : (0 : Int32).toInt = 0 := by decide
  have l1 : (8 : Int32).toInt = 8 := by decide
  have l2 : (47 : Int32).toInt = 47 := by decide
  have l3 : (1 : Int32).toInt = 1 := by decide
  have l4 : ((-3) : Int32).toInt = -3 := by decide
  have l5 : ((-1) : Int32).toInt = -1 := by decide
  have i3 : 0 ≤ v12_sheets.toInt ∧ v12_sheets.toInt ≤ 8 := i3
  refine lv_iload_n hx hb dX12_sheet_0 rfl (lv_at hl 1 rfl) ?_
  refine kcm_i hA hAB hP hD hS [false, false] rfl (fun _ => rfl) (fun hPc hDc => va_runS (As := [.int p1]) (rest := []) ⟨hx, hb, hml, hown, hts⟩ (k_X12_isYear l D κ β s.heap.size p1) (va_cwS 1 hts gX12_sheet_X12_isYear rfl rfl rfl (by decide +kernel) ⟨Nat.le_of_ble_eq_true rfl, Nat.le_of_ble_eq_true rfl⟩) (pk_S hK hS hAB hPc hDc) rfl rfl hl.1 rfl (lv_room (Nat.le_of_ble_eq_true rfl)) dX12_sheet_1 ⟨Nat.le_of_ble_eq_true rfl, Nat.le_of_ble_eq_true rfl⟩) (fun x1 u2 H locs hw hPD hS => ?_)
  have h3 : (x1.toInt = 1 ∧ 0 ≤ p1.toInt ∧ p1.toInt ≤ 2000) ∨ (x1.toInt = 0 ∧ (p1.toInt < 0 ∨ 2000 < p1.toInt)) := hw
  obtain ⟨hP, hD⟩ : PD D A [O12 a12 r12 v12_keptMany v12_done v12_sheets v12_holes v12_worms v12_laidMany v12_wanted v12_orderMany v12_firstOrder v12_lines v12_marks v12_dots v12_madeIn v12_bound v12_places v12_maps v12_tapeMany v12_stories v12_base v12_at v12_ends v12_fault v12_opened v12_bodies v12_ran v12_ownKind v12_ownNumber, (cI κ (r12 0) 55 f12_may)] H := hPD
  refine lv_if_ne (tgt := 9) hx hb dX12_sheet_4 (by decide) (fun c4 => ?_) (fun c4 => ?_)
  · have c4 := ci_ne c4
    refine lv_aload_n hx hb dX12_sheet_9 rfl (lv_at hl 0 rfl) ?_
    refine va_get (D := D) (ci := 12) (v := .int v12_sheets) (C := RX12) (T := TX12) (N := 63) hx hb hts w1 hown hK.1 hP 0 rfl rfl 6 (by decide) w0 (fun _ h9 => h9) rfl dX12_sheet_10 ?_
    refine lv_bipush (v := 8) hx hb dX12_sheet_13 (by decide) ?_
    refine lv_icmp_ne (tgt := 21) hx hb dX12_sheet_15 (by decide) (fun c5 => ?_) (fun c5 => ?_)
    · have c5 := ci_ne c5
      refine lv_aload_n hx hb dX12_sheet_21 rfl (lv_at hl 0 rfl) ?_
      refine va_get (D := D) (ci := 12) (v := .ref (r12 0)) (C := RX12) (T := TX12) (N := 63) hx hb hts w1 hown hK.1 hP 0 rfl rfl 0 (by decide) w2 (fun _ h9 => h9) rfl dX12_sheet_22 ?_
      refine lv_bipush (v := 47) hx hb dX12_sheet_25 (by decide) ?_
      refine lv_aload_n hx hb dX12_sheet_27 rfl (lv_at hl 0 rfl) ?_
      refine va_get (D := D) (ci := 12) (v := .int v12_sheets) (C := RX12) (T := TX12) (N := 63) hx hb hts w1 hown hK.1 hP 0 rfl rfl 6 (by decide) w0 (fun _ h9 => h9) rfl dX12_sheet_28 ?_
      refine lv_iadd hx hb dX12_sheet_31 ?_
      refine lv_topi (fun x6 e7 => ?_)
      try have h8 : x6.toInt = (47 : Int32).toInt + v12_sheets.toInt := ci_add e7 (by omega) (by omega)
      refine lv_iload_n hx hb dX12_sheet_32 rfl (lv_at hl 1 rfl) ?_
      refine va_iast hx hb hK.1 hP hD hS 1 1 rfl rfl (i := x6) (ix (by omega) (by omega)) dX12_sheet_33 (fun H locs hP hD hS => ?_)
      obtain ⟨g9, e10⟩ : ∃ y : Nat → Int32, y = upd f12_may x6.toNatClampNeg p1 := ⟨_, rfl⟩
      rw [← e10] at hP hD
      obtain ⟨hP, hD⟩ : PD D A [O12 a12 r12 v12_keptMany v12_done v12_sheets v12_holes v12_worms v12_laidMany v12_wanted v12_orderMany v12_firstOrder v12_lines v12_marks v12_dots v12_madeIn v12_bound v12_places v12_maps v12_tapeMany v12_stories v12_base v12_at v12_ends v12_fault v12_opened v12_bodies v12_ran v12_ownKind v12_ownNumber, (cI κ (r12 0) 55 g9)] H := ⟨hP, hD⟩
      refine lv_aload_n hx hb dX12_sheet_34 rfl (lv_at hl 0 rfl) ?_
      refine lv_dup hx hb dX12_sheet_35 rfl ?_
      refine va_get (D := D) (ci := 12) (v := .int v12_sheets) (C := RX12) (T := TX12) (N := 63) hx hb hts w1 hown hK.1 hP 0 rfl rfl 6 (by decide) w0 (fun _ h9 => h9) rfl dX12_sheet_36 ?_
      refine lv_iconst (v := 1) hx hb dX12_sheet_39 (by decide) ?_
      refine lv_iadd hx hb dX12_sheet_40 ?_
      refine lv_topi (fun x11 e12 => ?_)
      try have h13 : x11.toInt = v12_sheets.toInt + (1 : Int32).toInt := ci_add e12 (by omega) (by omega)
      refine va_put (D := D) (ci := 12) (v := .int x11) (ty := .int) (C := RX12) (T := TX12) (N := 63) hx hb hts w1 tyX12 tyX12_ok nmX12 hown hK.1 hP hD hS 0 rfl rfl 6 (by decide) w0 (fun _ h9 => h9) rfl (by decide +kernel) rfl rfl (Nat.le_of_ble_eq_true rfl) dX12_sheet_41 (fun H locs hP hD hS => ?_)
      obtain ⟨hP, hD⟩ : PD D A [O12 a12 r12 v12_keptMany v12_done x11 v12_holes v12_worms v12_laidMany v12_wanted v12_orderMany v12_firstOrder v12_lines v12_marks v12_dots v12_madeIn v12_bound v12_places v12_maps v12_tapeMany v12_stories v12_base v12_at v12_ends v12_fault v12_opened v12_bodies v12_ran v12_ownKind v12_ownNumber, (cI κ (r12 0) 55 g9)] H := ⟨hP, hD⟩
      have h14 : 0 ≤ x11.toInt ∧ x11.toInt ≤ 8 := by omega
      refine lv_aload_n hx hb dX12_sheet_44 rfl (lv_at hl 0 rfl) ?_
      refine va_get (D := D) (ci := 12) (v := .int x11) (C := RX12) (T := TX12) (N := 63) hx hb hts w1 hown hK.1 hP 0 rfl rfl 6 (by decide) w0 (fun _ h9 => h9) rfl dX12_sheet_45 ?_
      refine lv_iconst (v := 1) hx hb dX12_sheet_48 (by decide) ?_
      refine lv_isub hx hb dX12_sheet_49 ?_
      refine lv_topi (fun x15 e16 => ?_)
      try have h17 : x15.toInt = x11.toInt - (1 : Int32).toInt := ci_sub e16 (by omega) (by omega)
      have hpo : (0 ≤ x11.toInt ∧ x11.toInt ≤ 8) ∧ ((¬ (0 ≤ p1.toInt ∧ p1.toInt ≤ 2000) ∧ x15.toInt = -1 ∧ x11.toInt = v12_sheets.toInt) ∨ ((0 ≤ p1.toInt ∧ p1.toInt ≤ 2000) ∧ v12_sheets.toInt = 8 ∧ x15.toInt = -3 ∧ x11.toInt = v12_sheets.toInt) ∨ ((0 ≤ p1.toInt ∧ p1.toInt ≤ 2000) ∧ v12_sheets.toInt < 8 ∧ x15.toInt = v12_sheets.toInt ∧ x11.toInt = v12_sheets.toInt + 1)) := ⟨h14, (by omega)⟩
      exact ret _ _ _ _ x15 (x11, g9) dX12_sheet_50 hpo hP hD hS
    have c5 := ci_eq c5
    refine lv_bipush (v := (-3)) hx hb dX12_sheet_18 (by decide) ?_
    have hpo : (0 ≤ v12_sheets.toInt ∧ v12_sheets.toInt ≤ 8) ∧ ((¬ (0 ≤ p1.toInt ∧ p1.toInt ≤ 2000) ∧ ((-3) : Int32).toInt = -1 ∧ v12_sheets.toInt = v12_sheets.toInt) ∨ ((0 ≤ p1.toInt ∧ p1.toInt ≤ 2000) ∧ v12_sheets.toInt = 8 ∧ ((-3) : Int32).toInt = -3 ∧ v12_sheets.toInt = v12_sheets.toInt) ∨ ((0 ≤ p1.toInt ∧ p1.toInt ≤ 2000) ∧ v12_sheets.toInt < 8 ∧ ((-3) : Int32).toInt = v12_sheets.toInt ∧ v12_sheets.toInt = v12_sheets.toInt + 1)) := ⟨i3, (by omega)⟩
    exact ret _ _ _ _ (-3) (v12_sheets, f12_may) dX12_sheet_20 hpo hP hD hS
  have c4 := ci_eq c4
  refine lv_iconst (v := (-1)) hx hb dX12_sheet_7 (by decide) ?_
  have hpo : (0 ≤ v12_sheets.toInt ∧ v12_sheets.toInt ≤ 8) ∧ ((¬ (0 ≤ p1.toInt ∧ p1.toInt ≤ 2000) ∧ ((-1) : Int32).toInt = -1 ∧ v12_sheets.toInt = v12_sheets.toInt) ∨ ((0 ≤ p1.toInt ∧ p1.toInt ≤ 2000) ∧ v12_sheets.toInt = 8 ∧ ((-1) : Int32).toInt = -3 ∧ v12_sheets.toInt = v12_sheets.toInt) ∨ ((0 ≤ p1.toInt ∧ p1.toInt ≤ 2000) ∧ v12_sheets.toInt < 8 ∧ ((-1) : Int32).toInt = v12_sheets.toInt ∧ v12_sheets.toInt = v12_sheets.toInt + 1)) := ⟨i3, (by omega)⟩
  exact ret _ _ _ _ (-1) (v12_sheets, f12_may) dX12_sheet_8 hpo hP hD hS
set_option maxHeartbeats 4000000 in
set_option maxRecDepth 100000 in
theorem k_X12_becomes (l : Launch) (D : va_G) (κ : Nat → ClassId) (β : Nat) (a12 : Nat) (r12 : Nat → Nat) (v12_keptMany : Int32) (v12_done : Int32) (v12_sheets : Int32) (v12_holes : Int32) (v12_worms : Int32) (v12_laidMany : Int32) (v12_wanted : Int32) (v12_orderMany : Int32) (v12_firstOrder : Int32) (v12_lines : Int32) (v12_marks : Int32) (v12_dots : Int32) (v12_madeIn : Int32) (v12_bound : Int32) (v12_places : Int32) (v12_maps : Int32) (v12_tapeMany : Int32) (v12_stories : Int32) (v12_base : Int32) (v12_at : Int32) (v12_ends : Int32) (v12_fault : Int32) (v12_opened : Int32) (v12_bodies : Int32) (v12_ran : Int32) (v12_ownKind : Int32) (v12_ownNumber : Int32) (f12_may : Nat → Int32) (f12_changeAt : Nat → Int32) (f12_changeWas : Nat → Int32) (f12_changeIs : Nat → Int32) (sz : Nat) (p1 : Int32) (p2 : Int32) (i1 : Rg 0 40 v12_keptMany) (i2 : Rg 0 40 v12_done) (i3 : Rg 0 8 v12_sheets) (i4 : Rg 0 40 v12_holes) (i5 : Rg 0 40 v12_worms) (i6 : Rg 0 8 v12_laidMany) (i7 : Rg 0 8 v12_wanted) (i8 : Rg 0 20 v12_lines) (i9 : Rg 0 60 v12_marks) (i10 : Rg 0 40 v12_dots) (i11 : Rg 0 20 v12_places) (i12 : Rg 0 8 v12_maps) (i13 : Rg 0 120 v12_tapeMany) (i14 : Rg 0 6 v12_stories) (i15 : Rg 0 50 v12_bodies) (i16 : Rg 0 1000 v12_ran) (hf12_changeAt : ∀ j : Nat, 0 ≤ (f12_changeAt j).toInt ∧ (f12_changeAt j).toInt ≤ 54) (i17 : v12_done.toInt ≤ v12_keptMany.toInt) (i18 : 0 ≤ p1.toInt ∧ p1.toInt ≤ 54) : Met l yX12_becomes wsX12_becomes ({ frames := 0, cells := 0, slots := 0, locals := 0 } : Room) (PcK D κ β [O12 a12 r12 v12_keptMany v12_done v12_sheets v12_holes v12_worms v12_laidMany v12_wanted v12_orderMany v12_firstOrder v12_lines v12_marks v12_dots v12_madeIn v12_bound v12_places v12_maps v12_tapeMany v12_stories v12_base v12_at v12_ends v12_fault v12_opened v12_bodies v12_ran v12_ownKind v12_ownNumber, (cI κ (r12 0) 55 f12_may), (cI κ (r12 1) 40 f12_changeAt), (cI κ (r12 2) 40 f12_changeWas), (cI κ (r12 3) 40 f12_changeIs)] sz [.ref a12, .int p1, .int p2]) (QiK D (fun (r : Int32) (u : Int32 × Int32 × (Nat → Int32) × (Nat → Int32) × (Nat → Int32) × (Nat → Int32)) => (0 ≤ u.1.toInt ∧ u.1.toInt ≤ 40) ∧ (0 ≤ u.2.1.toInt ∧ u.2.1.toInt ≤ 40) ∧ (∀ j : Nat, 0 ≤ (u.2.2.2.1 j).toInt ∧ (u.2.2.2.1 j).toInt ≤ 54) ∧ (u.2.1.toInt ≤ u.1.toInt)) (fun (u : Int32 × Int32 × (Nat → Int32) × (Nat → Int32) × (Nat → Int32) × (Nat → Int32)) => [O12 a12 r12 u.1 u.2.1 v12_sheets v12_holes v12_worms v12_laidMany v12_wanted v12_orderMany v12_firstOrder v12_lines v12_marks v12_dots v12_madeIn v12_bound v12_places v12_maps v12_tapeMany v12_stories v12_base v12_at v12_ends v12_fault v12_opened v12_bodies v12_ran v12_ownKind v12_ownNumber, (cI κ (r12 0) 55 u.2.2.1), (cI κ (r12 1) 40 u.2.2.2.1), (cI κ (r12 2) 40 u.2.2.2.2.1), (cI κ (r12 3) 40 u.2.2.2.2.2)]) [O12 a12 r12 v12_keptMany v12_done v12_sheets v12_holes v12_worms v12_laidMany v12_wanted v12_orderMany v12_firstOrder v12_lines v12_marks v12_dots v12_madeIn v12_bound v12_places v12_maps v12_tapeMany v12_stories v12_base v12_at v12_ends v12_fault v12_opened v12_bodies v12_ran v12_ownKind v12_ownNumber, (cI κ (r12 0) 55 f12_may), (cI κ (r12 1) 40 f12_changeAt), (cI κ (r12 2) 40 f12_changeWas), (cI κ (r12 3) 40 f12_changeIs)] sz) 0 0 (va_A [O12 a12 r12 v12_keptMany v12_done v12_sheets v12_holes v12_worms v12_laidMany v12_wanted v12_orderMany v12_firstOrder v12_lines v12_marks v12_dots v12_madeIn v12_bound v12_places v12_maps v12_tapeMany v12_stories v12_base v12_at v12_ends v12_fault v12_opened v12_bodies v12_ran v12_ownKind v12_ownNumber, (cI κ (r12 0) 55 f12_may), (cI κ (r12 1) 40 f12_changeAt), (cI κ (r12 2) 40 f12_changeWas), (cI κ (r12 3) 40 f12_changeIs)] sz) := by
  refine ofK_i (cc := cX12_becomes) (maxL := 5) (own := RX12) (by decide) rfl rfl (Nat.le_of_ble_eq_true rfl) ?_
  intro p e s m args below meth c Q A ls hsz hx hb hml hts hown hK hA hAB hP hD hl ret
  have hS : va_S A s.heap s.heap [] := va_S.rf
  have hl : lv_has ls 5 [(0, .ref a12), (1, .int p1), (2, .int p2)] := hl
  have w0 := hts (.fieldLink RX12 9 "OlderSkinModel" "may" "[I") (List.mem_of_getElem? (i := 1) rfl)
  have w1 := (fun w h => List.mem_cons_of_mem _ (List.mem_append_right _ h) : ∀ w ∈ u_ws RX12 TX12 63, w ∈ wsX12_becomes)
  have w2 := hts (.fieldLink RX12 127 "OlderSkinModel" "done" "I") (List.mem_of_getElem? (i := 2) rfl)
  have w3 := hts (.fieldLink RX12 13 "OlderSkinModel" "changeAt" "[I") (List.mem_of_getElem? (i := 3) rfl)
  have w4 := hts (.fieldLink RX12 16 "OlderSkinModel" "changeWas" "[I") (List.mem_of_getElem? (i := 4) rfl)
  have w5 := hts (.fieldLink RX12 19 "OlderSkinModel" "changeIs" "[I") (List.mem_of_getElem? (i := 5) rfl)
  have w6 := hts (.fieldLink RX12 130 "OlderSkinModel" "keptMany" "I") (List.mem_of_getElem? (i := 6) rfl)
  have l0 : (0 : Int32).toInt = 0 := by decide
  have l1 : (40 : Int32).toInt = 40 := by decide
  have l2 : (1 : Int32).toInt = 1 := by decide
  have i1 : 0 ≤ v12_keptMany.toInt ∧ v12_keptMany.toInt ≤ 40 := i1
  have i2 : 0 ≤ v12_done.toInt ∧ v12_done.toInt ≤ 40 := i2
  refine lv_aload_n hx hb dX12_becomes_0 rfl (lv_at hl 0 rfl) ?_
  refine va_get (D := D) (ci := 12) (v := .ref (r12 0)) (C := RX12) (T := TX12) (N := 63) hx hb hts w1 hown hK.1 hP 0 rfl rfl 0 (by decide) w0 (fun _ h9 => h9) rfl dX12_becomes_1 ?_
  refine lv_iload_n hx hb dX12_becomes_4 rfl (lv_at hl 1 rfl) ?_
  refine va_iald hx hb hK.1 hP 1 1 rfl rfl (i := p1) (ix (by omega) (by omega)) dX12_becomes_5 ?_
  refine lv_topi (fun x1 e2 => ?_)
  refine lv_istore_n (lv' := [(3, .int x1), (0, .ref a12), (1, .int p1), (2, .int p2)]) hx hb dX12_becomes_6 rfl hl (by decide) rfl (fun ls hl => ?_)
  refine lv_iload_n hx hb dX12_becomes_7 rfl (lv_at hl 0 rfl) ?_
  refine lv_iload_n hx hb dX12_becomes_8 rfl (lv_at hl 3 rfl) ?_
  refine lv_icmp_ne (tgt := 14) hx hb dX12_becomes_9 (by decide) (fun c3 => ?_) (fun c3 => ?_)
  · have c3 := ci_ne c3
    refine lv_aload_n hx hb dX12_becomes_14 rfl (lv_at hl 1 rfl) ?_
    refine va_get (D := D) (ci := 12) (v := .int v12_done) (C := RX12) (T := TX12) (N := 63) hx hb hts w1 hown hK.1 hP 0 rfl rfl 5 (by decide) w2 (fun _ h9 => h9) rfl dX12_becomes_15 ?_
    refine lv_bipush (v := 40) hx hb dX12_becomes_18 (by decide) ?_
    refine lv_icmp_ne (tgt := 97) hx hb dX12_becomes_20 (by decide) (fun c4 => ?_) (fun c4 => ?_)
    · have c4 := ci_ne c4
      refine lv_aload_n hx hb dX12_becomes_97 rfl (lv_at hl 1 rfl) ?_
      refine va_get (D := D) (ci := 12) (v := .ref (r12 1)) (C := RX12) (T := TX12) (N := 63) hx hb hts w1 hown hK.1 hP 0 rfl rfl 1 (by decide) w3 (fun _ h9 => h9) rfl dX12_becomes_98 ?_
      refine lv_aload_n hx hb dX12_becomes_101 rfl (lv_at hl 1 rfl) ?_
      refine va_get (D := D) (ci := 12) (v := .int v12_done) (C := RX12) (T := TX12) (N := 63) hx hb hts w1 hown hK.1 hP 0 rfl rfl 5 (by decide) w2 (fun _ h9 => h9) rfl dX12_becomes_102 ?_
      refine lv_iload_n hx hb dX12_becomes_105 rfl (lv_at hl 2 rfl) ?_
      refine va_iast hx hb hK.1 hP hD hS 2 1 rfl rfl (i := v12_done) (ix (by omega) (by omega)) dX12_becomes_106 (fun H locs hP hD hS => ?_)
      obtain ⟨g5, e6⟩ : ∃ y : Nat → Int32, y = upd f12_changeAt v12_done.toNatClampNeg p1 := ⟨_, rfl⟩
      rw [← e6] at hP hD
      obtain ⟨hP, hD⟩ : PD D A [O12 a12 r12 v12_keptMany v12_done v12_sheets v12_holes v12_worms v12_laidMany v12_wanted v12_orderMany v12_firstOrder v12_lines v12_marks v12_dots v12_madeIn v12_bound v12_places v12_maps v12_tapeMany v12_stories v12_base v12_at v12_ends v12_fault v12_opened v12_bodies v12_ran v12_ownKind v12_ownNumber, (cI κ (r12 0) 55 f12_may), (cI κ (r12 1) 40 g5), (cI κ (r12 2) 40 f12_changeWas), (cI κ (r12 3) 40 f12_changeIs)] H := ⟨hP, hD⟩
      have h7 : ∀ j : Nat, 0 ≤ (g5 j).toInt ∧ (g5 j).toInt ≤ 54 := by rw [e6]; exact all_upd (P := fun z => 0 ≤ z.toInt ∧ z.toInt ≤ 54) hf12_changeAt (by omega)
      refine lv_aload_n hx hb dX12_becomes_107 rfl (lv_at hl 1 rfl) ?_
      refine va_get (D := D) (ci := 12) (v := .ref (r12 2)) (C := RX12) (T := TX12) (N := 63) hx hb hts w1 hown hK.1 hP 0 rfl rfl 2 (by decide) w4 (fun _ h9 => h9) rfl dX12_becomes_108 ?_
      refine lv_aload_n hx hb dX12_becomes_111 rfl (lv_at hl 1 rfl) ?_
      refine va_get (D := D) (ci := 12) (v := .int v12_done) (C := RX12) (T := TX12) (N := 63) hx hb hts w1 hown hK.1 hP 0 rfl rfl 5 (by decide) w2 (fun _ h9 => h9) rfl dX12_becomes_112 ?_
      refine lv_iload_n hx hb dX12_becomes_115 rfl (lv_at hl 0 rfl) ?_
      refine va_iast hx hb hK.1 hP hD hS 3 1 rfl rfl (i := v12_done) (ix (by omega) (by omega)) dX12_becomes_116 (fun H locs hP hD hS => ?_)
      obtain ⟨g8, e9⟩ : ∃ y : Nat → Int32, y = upd f12_changeWas v12_done.toNatClampNeg x1 := ⟨_, rfl⟩
      rw [← e9] at hP hD
      obtain ⟨hP, hD⟩ : PD D A [O12 a12 r12 v12_keptMany v12_done v12_sheets v12_holes v12_worms v12_laidMany v12_wanted v12_orderMany v12_firstOrder v12_lines v12_marks v12_dots v12_madeIn v12_bound v12_places v12_maps v12_tapeMany v12_stories v12_base v12_at v12_ends v12_fault v12_opened v12_bodies v12_ran v12_ownKind v12_ownNumber, (cI κ (r12 0) 55 f12_may), (cI κ (r12 1) 40 g5), (cI κ (r12 2) 40 g8), (cI κ (r12 3) 40 f12_changeIs)] H := ⟨hP, hD⟩
      refine lv_aload_n hx hb dX12_becomes_117 rfl (lv_at hl 1 rfl) ?_
      refine va_get (D := D) (ci := 12) (v := .ref (r12 3)) (C := RX12) (T := TX12) (N := 63) hx hb hts w1 hown hK.1 hP 0 rfl rfl 3 (by decide) w5 (fun _ h9 => h9) rfl dX12_becomes_118 ?_
      refine lv_aload_n hx hb dX12_becomes_121 rfl (lv_at hl 1 rfl) ?_
      refine va_get (D := D) (ci := 12) (v := .int v12_done) (C := RX12) (T := TX12) (N := 63) hx hb hts w1 hown hK.1 hP 0 rfl rfl 5 (by decide) w2 (fun _ h9 => h9) rfl dX12_becomes_122 ?_
      refine lv_iload_n hx hb dX12_becomes_125 rfl (lv_at hl 3 rfl) ?_
      refine va_iast hx hb hK.1 hP hD hS 4 1 rfl rfl (i := v12_done) (ix (by omega) (by omega)) dX12_becomes_126 (fun H locs hP hD hS => ?_)
      obtain ⟨g10, e11⟩ : ∃ y : Nat → Int32, y = upd f12_changeIs v12_done.toNatClampNeg p2 := ⟨_, rfl⟩
      rw [← e11] at hP hD
      obtain ⟨hP, hD⟩ : PD D A [O12 a12 r12 v12_keptMany v12_done v12_sheets v12_holes v12_worms v12_laidMany v12_wanted v12_orderMany v12_firstOrder v12_lines v12_marks v12_dots v12_madeIn v12_bound v12_places v12_maps v12_tapeMany v12_stories v12_base v12_at v12_ends v12_fault v12_opened v12_bodies v12_ran v12_ownKind v12_ownNumber, (cI κ (r12 0) 55 f12_may), (cI κ (r12 1) 40 g5), (cI κ (r12 2) 40 g8), (cI κ (r12 3) 40 g10)] H := ⟨hP, hD⟩
      refine lv_aload_n hx hb dX12_becomes_127 rfl (lv_at hl 1 rfl) ?_
      refine lv_dup hx hb dX12_becomes_128 rfl ?_
      refine va_get (D := D) (ci := 12) (v := .int v12_done) (C := RX12) (T := TX12) (N := 63) hx hb hts w1 hown hK.1 hP 0 rfl rfl 5 (by decide) w2 (fun _ h9 => h9) rfl dX12_becomes_129 ?_
      refine lv_iconst (v := 1) hx hb dX12_becomes_132 (by decide) ?_
      refine lv_iadd hx hb dX12_becomes_133 ?_
      refine lv_topi (fun x12 e13 => ?_)
      try have h14 : x12.toInt = v12_done.toInt + (1 : Int32).toInt := ci_add e13 (by omega) (by omega)
      refine va_put (D := D) (ci := 12) (v := .int x12) (ty := .int) (C := RX12) (T := TX12) (N := 63) hx hb hts w1 tyX12 tyX12_ok nmX12 hown hK.1 hP hD hS 0 rfl rfl 5 (by decide) w2 (fun _ h9 => h9) rfl (by decide +kernel) rfl rfl (Nat.le_of_ble_eq_true rfl) dX12_becomes_134 (fun H locs hP hD hS => ?_)
      obtain ⟨hP, hD⟩ : PD D A [O12 a12 r12 v12_keptMany x12 v12_sheets v12_holes v12_worms v12_laidMany v12_wanted v12_orderMany v12_firstOrder v12_lines v12_marks v12_dots v12_madeIn v12_bound v12_places v12_maps v12_tapeMany v12_stories v12_base v12_at v12_ends v12_fault v12_opened v12_bodies v12_ran v12_ownKind v12_ownNumber, (cI κ (r12 0) 55 f12_may), (cI κ (r12 1) 40 g5), (cI κ (r12 2) 40 g8), (cI κ (r12 3) 40 g10)] H := ⟨hP, hD⟩
      refine lv_aload_n hx hb dX12_becomes_137 rfl (lv_at hl 1 rfl) ?_
      refine lv_aload_n hx hb dX12_becomes_138 rfl (lv_at hl 1 rfl) ?_
      refine va_get (D := D) (ci := 12) (v := .int x12) (C := RX12) (T := TX12) (N := 63) hx hb hts w1 hown hK.1 hP 0 rfl rfl 5 (by decide) w2 (fun _ h9 => h9) rfl dX12_becomes_139 ?_
      refine va_put (D := D) (ci := 12) (v := .int x12) (ty := .int) (C := RX12) (T := TX12) (N := 63) hx hb hts w1 tyX12 tyX12_ok nmX12 hown hK.1 hP hD hS 0 rfl rfl 4 (by decide) w6 (fun _ h9 => h9) rfl (by decide +kernel) rfl rfl (Nat.le_of_ble_eq_true rfl) dX12_becomes_142 (fun H locs hP hD hS => ?_)
      obtain ⟨hP, hD⟩ : PD D A [O12 a12 r12 x12 x12 v12_sheets v12_holes v12_worms v12_laidMany v12_wanted v12_orderMany v12_firstOrder v12_lines v12_marks v12_dots v12_madeIn v12_bound v12_places v12_maps v12_tapeMany v12_stories v12_base v12_at v12_ends v12_fault v12_opened v12_bodies v12_ran v12_ownKind v12_ownNumber, (cI κ (r12 0) 55 f12_may), (cI κ (r12 1) 40 g5), (cI κ (r12 2) 40 g8), (cI κ (r12 3) 40 g10)] H := ⟨hP, hD⟩
      have h15 : 0 ≤ x12.toInt ∧ x12.toInt ≤ 40 := by omega
      have h16 : x12.toInt ≤ x12.toInt := by omega
      refine lv_aload_n hx hb dX12_becomes_145 rfl (lv_at hl 1 rfl) ?_
      refine va_get (D := D) (ci := 12) (v := .ref (r12 0)) (C := RX12) (T := TX12) (N := 63) hx hb hts w1 hown hK.1 hP 0 rfl rfl 0 (by decide) w0 (fun _ h9 => h9) rfl dX12_becomes_146 ?_
      refine lv_iload_n hx hb dX12_becomes_149 rfl (lv_at hl 2 rfl) ?_
      refine lv_iload_n hx hb dX12_becomes_150 rfl (lv_at hl 3 rfl) ?_
      refine va_iast hx hb hK.1 hP hD hS 1 1 rfl rfl (i := p1) (ix (by omega) (by omega)) dX12_becomes_151 (fun H locs hP hD hS => ?_)
      obtain ⟨g17, e18⟩ : ∃ y : Nat → Int32, y = upd f12_may p1.toNatClampNeg p2 := ⟨_, rfl⟩
      rw [← e18] at hP hD
      obtain ⟨hP, hD⟩ : PD D A [O12 a12 r12 x12 x12 v12_sheets v12_holes v12_worms v12_laidMany v12_wanted v12_orderMany v12_firstOrder v12_lines v12_marks v12_dots v12_madeIn v12_bound v12_places v12_maps v12_tapeMany v12_stories v12_base v12_at v12_ends v12_fault v12_opened v12_bodies v12_ran v12_ownKind v12_ownNumber, (cI κ (r12 0) 55 g17), (cI κ (r12 1) 40 g5), (cI κ (r12 2) 40 g8), (cI κ (r12 3) 40 g10)] H := ⟨hP, hD⟩
      refine lv_iload_n hx hb dX12_becomes_152 rfl (lv_at hl 0 rfl) ?_
      have hpo : (0 ≤ x12.toInt ∧ x12.toInt ≤ 40) ∧ (0 ≤ x12.toInt ∧ x12.toInt ≤ 40) ∧ (∀ j : Nat, 0 ≤ (g5 j).toInt ∧ (g5 j).toInt ≤ 54) ∧ (x12.toInt ≤ x12.toInt) := ⟨h15, h15, h7, h16⟩
      exact ret _ _ _ _ x1 (x12, x12, g17, g5, g8, g10) dX12_becomes_153 hpo hP hD hS
    have c4 := ci_eq c4
    refine lv_iconst (v := 1) hx hb dX12_becomes_23 (by decide) ?_
    refine lv_istore (lv' := [(4, .int 1), (3, .int x1), (0, .ref a12), (1, .int p1), (2, .int p2)]) hx hb dX12_becomes_24 hl (by decide) rfl (fun ls hl => ?_)
    have lp26 : ∀ (n26 : Nat) (k19 : Int32) (g20 : Nat → Int32) (g22 : Nat → Int32) (g23 : Nat → Int32), (∀ j : Nat, 0 ≤ (g20 j).toInt ∧ (g20 j).toInt ≤ 54) → (1 ≤ k19.toInt) → (0 ≤ k19.toInt) → (40 - k19.toInt).toNat < n26 → ∀ (H : Heap) (locs : List Loc), va_P D vwCl [O12 a12 r12 v12_keptMany v12_done v12_sheets v12_holes v12_worms v12_laidMany v12_wanted v12_orderMany v12_firstOrder v12_lines v12_marks v12_dots v12_madeIn v12_bound v12_places v12_maps v12_tapeMany v12_stories v12_base v12_at v12_ends v12_fault v12_opened v12_bodies v12_ran v12_ownKind v12_ownNumber, (cI κ (r12 0) 55 f12_may), (cI κ (r12 1) 40 g20), (cI κ (r12 2) 40 g22), (cI κ (r12 3) 40 g23)] H → va_D A [O12 a12 r12 v12_keptMany v12_done v12_sheets v12_holes v12_worms v12_laidMany v12_wanted v12_orderMany v12_firstOrder v12_lines v12_marks v12_dots v12_madeIn v12_bound v12_places v12_maps v12_tapeMany v12_stories v12_base v12_at v12_ends v12_fault v12_opened v12_bodies v12_ran v12_ownKind v12_ownNumber, (cI κ (r12 0) 55 f12_may), (cI κ (r12 1) 40 g20), (cI κ (r12 2) 40 g22), (cI κ (r12 3) 40 g23)] → va_S A s.heap H locs → ∀ ls : Array Slot, lv_has ls 5 [(4, .int k19), (3, .int x1), (0, .ref a12), (1, .int p1), (2, .int p2)] → W p l e ({ frames := 0, cells := 0, slots := 0, locals := 0 } : Room) s m args below meth c H locs 0 0 Q (F0 m 26 ls []) := by
      intro n26
      induction n26 with
      | zero =>
        intro k19 g20 g22 g23 h21 h24 h25 m26
        exact absurd m26 (Nat.not_lt_zero _)
      | succ n26 ih26 =>
        intro k19 g20 g22 g23 h21 h24 h25 m26 H locs hP hD hS ls hl
        refine lv_iload hx hb dX12_becomes_26 (lv_at hl 0 rfl) ?_
        refine lv_bipush (v := 40) hx hb dX12_becomes_28 (by decide) ?_
        refine lv_icmp_ge (tgt := 87) hx hb dX12_becomes_30 (by decide) (fun c27 => ?_) (fun c27 => ?_)
        · have c27 := ci_le c27
          refine lv_aload_n hx hb dX12_becomes_87 rfl (lv_at hl 2 rfl) ?_
          refine lv_dup hx hb dX12_becomes_88 rfl ?_
          refine va_get (D := D) (ci := 12) (v := .int v12_done) (C := RX12) (T := TX12) (N := 63) hx hb hts w1 hown hK.1 hP 0 rfl rfl 5 (by decide) w2 (fun _ h9 => h9) rfl dX12_becomes_89 ?_
          refine lv_iconst (v := 1) hx hb dX12_becomes_92 (by decide) ?_
          refine lv_isub hx hb dX12_becomes_93 ?_
          refine lv_topi (fun x28 e29 => ?_)
          try have h30 : x28.toInt = v12_done.toInt - (1 : Int32).toInt := ci_sub e29 (by omega) (by omega)
          refine va_put (D := D) (ci := 12) (v := .int x28) (ty := .int) (C := RX12) (T := TX12) (N := 63) hx hb hts w1 tyX12 tyX12_ok nmX12 hown hK.1 hP hD hS 0 rfl rfl 5 (by decide) w2 (fun _ h9 => h9) rfl (by decide +kernel) rfl rfl (Nat.le_of_ble_eq_true rfl) dX12_becomes_94 (fun H locs hP hD hS => ?_)
          obtain ⟨hP, hD⟩ : PD D A [O12 a12 r12 v12_keptMany x28 v12_sheets v12_holes v12_worms v12_laidMany v12_wanted v12_orderMany v12_firstOrder v12_lines v12_marks v12_dots v12_madeIn v12_bound v12_places v12_maps v12_tapeMany v12_stories v12_base v12_at v12_ends v12_fault v12_opened v12_bodies v12_ran v12_ownKind v12_ownNumber, (cI κ (r12 0) 55 f12_may), (cI κ (r12 1) 40 g20), (cI κ (r12 2) 40 g22), (cI κ (r12 3) 40 g23)] H := ⟨hP, hD⟩
          have h31 : 0 ≤ x28.toInt ∧ x28.toInt ≤ 40 := by omega
          have h32 : x28.toInt ≤ v12_keptMany.toInt := by omega
          refine lv_aload_n hx hb dX12_becomes_97 rfl (lv_at hl 2 rfl) ?_
          refine va_get (D := D) (ci := 12) (v := .ref (r12 1)) (C := RX12) (T := TX12) (N := 63) hx hb hts w1 hown hK.1 hP 0 rfl rfl 1 (by decide) w3 (fun _ h9 => h9) rfl dX12_becomes_98 ?_
          refine lv_aload_n hx hb dX12_becomes_101 rfl (lv_at hl 2 rfl) ?_
          refine va_get (D := D) (ci := 12) (v := .int x28) (C := RX12) (T := TX12) (N := 63) hx hb hts w1 hown hK.1 hP 0 rfl rfl 5 (by decide) w2 (fun _ h9 => h9) rfl dX12_becomes_102 ?_
          refine lv_iload_n hx hb dX12_becomes_105 rfl (lv_at hl 3 rfl) ?_
          refine va_iast hx hb hK.1 hP hD hS 2 1 rfl rfl (i := x28) (ix (by omega) (by omega)) dX12_becomes_106 (fun H locs hP hD hS => ?_)
          obtain ⟨g33, e34⟩ : ∃ y : Nat → Int32, y = upd g20 x28.toNatClampNeg p1 := ⟨_, rfl⟩
          rw [← e34] at hP hD
          obtain ⟨hP, hD⟩ : PD D A [O12 a12 r12 v12_keptMany x28 v12_sheets v12_holes v12_worms v12_laidMany v12_wanted v12_orderMany v12_firstOrder v12_lines v12_marks v12_dots v12_madeIn v12_bound v12_places v12_maps v12_tapeMany v12_stories v12_base v12_at v12_ends v12_fault v12_opened v12_bodies v12_ran v12_ownKind v12_ownNumber, (cI κ (r12 0) 55 f12_may), (cI κ (r12 1) 40 g33), (cI κ (r12 2) 40 g22), (cI κ (r12 3) 40 g23)] H := ⟨hP, hD⟩
          have h35 : ∀ j : Nat, 0 ≤ (g33 j).toInt ∧ (g33 j).toInt ≤ 54 := by rw [e34]; exact all_upd (P := fun z => 0 ≤ z.toInt ∧ z.toInt ≤ 54) h21 (by omega)
          refine lv_aload_n hx hb dX12_becomes_107 rfl (lv_at hl 2 rfl) ?_
          refine va_get (D := D) (ci := 12) (v := .ref (r12 2)) (C := RX12) (T := TX12) (N := 63) hx hb hts w1 hown hK.1 hP 0 rfl rfl 2 (by decide) w4 (fun _ h9 => h9) rfl dX12_becomes_108 ?_
          refine lv_aload_n hx hb dX12_becomes_111 rfl (lv_at hl 2 rfl) ?_
          refine va_get (D := D) (ci := 12) (v := .int x28) (C := RX12) (T := TX12) (N := 63) hx hb hts w1 hown hK.1 hP 0 rfl rfl 5 (by decide) w2 (fun _ h9 => h9) rfl dX12_becomes_112 ?_
          refine lv_iload_n hx hb dX12_becomes_115 rfl (lv_at hl 1 rfl) ?_
          refine va_iast hx hb hK.1 hP hD hS 3 1 rfl rfl (i := x28) (ix (by omega) (by omega)) dX12_becomes_116 (fun H locs hP hD hS => ?_)
          obtain ⟨g36, e37⟩ : ∃ y : Nat → Int32, y = upd g22 x28.toNatClampNeg x1 := ⟨_, rfl⟩
          rw [← e37] at hP hD
          obtain ⟨hP, hD⟩ : PD D A [O12 a12 r12 v12_keptMany x28 v12_sheets v12_holes v12_worms v12_laidMany v12_wanted v12_orderMany v12_firstOrder v12_lines v12_marks v12_dots v12_madeIn v12_bound v12_places v12_maps v12_tapeMany v12_stories v12_base v12_at v12_ends v12_fault v12_opened v12_bodies v12_ran v12_ownKind v12_ownNumber, (cI κ (r12 0) 55 f12_may), (cI κ (r12 1) 40 g33), (cI κ (r12 2) 40 g36), (cI κ (r12 3) 40 g23)] H := ⟨hP, hD⟩
          refine lv_aload_n hx hb dX12_becomes_117 rfl (lv_at hl 2 rfl) ?_
          refine va_get (D := D) (ci := 12) (v := .ref (r12 3)) (C := RX12) (T := TX12) (N := 63) hx hb hts w1 hown hK.1 hP 0 rfl rfl 3 (by decide) w5 (fun _ h9 => h9) rfl dX12_becomes_118 ?_
          refine lv_aload_n hx hb dX12_becomes_121 rfl (lv_at hl 2 rfl) ?_
          refine va_get (D := D) (ci := 12) (v := .int x28) (C := RX12) (T := TX12) (N := 63) hx hb hts w1 hown hK.1 hP 0 rfl rfl 5 (by decide) w2 (fun _ h9 => h9) rfl dX12_becomes_122 ?_
          refine lv_iload_n hx hb dX12_becomes_125 rfl (lv_at hl 4 rfl) ?_
          refine va_iast hx hb hK.1 hP hD hS 4 1 rfl rfl (i := x28) (ix (by omega) (by omega)) dX12_becomes_126 (fun H locs hP hD hS => ?_)
          obtain ⟨g38, e39⟩ : ∃ y : Nat → Int32, y = upd g23 x28.toNatClampNeg p2 := ⟨_, rfl⟩
          rw [← e39] at hP hD
          obtain ⟨hP, hD⟩ : PD D A [O12 a12 r12 v12_keptMany x28 v12_sheets v12_holes v12_worms v12_laidMany v12_wanted v12_orderMany v12_firstOrder v12_lines v12_marks v12_dots v12_madeIn v12_bound v12_places v12_maps v12_tapeMany v12_stories v12_base v12_at v12_ends v12_fault v12_opened v12_bodies v12_ran v12_ownKind v12_ownNumber, (cI κ (r12 0) 55 f12_may), (cI κ (r12 1) 40 g33), (cI κ (r12 2) 40 g36), (cI κ (r12 3) 40 g38)] H := ⟨hP, hD⟩
          refine lv_aload_n hx hb dX12_becomes_127 rfl (lv_at hl 2 rfl) ?_
          refine lv_dup hx hb dX12_becomes_128 rfl ?_
          refine va_get (D := D) (ci := 12) (v := .int x28) (C := RX12) (T := TX12) (N := 63) hx hb hts w1 hown hK.1 hP 0 rfl rfl 5 (by decide) w2 (fun _ h9 => h9) rfl dX12_becomes_129 ?_
          refine lv_iconst (v := 1) hx hb dX12_becomes_132 (by decide) ?_
          refine lv_iadd hx hb dX12_becomes_133 ?_
          refine lv_topi (fun x40 e41 => ?_)
          try have h42 : x40.toInt = x28.toInt + (1 : Int32).toInt := ci_add e41 (by omega) (by omega)
          refine va_put (D := D) (ci := 12) (v := .int x40) (ty := .int) (C := RX12) (T := TX12) (N := 63) hx hb hts w1 tyX12 tyX12_ok nmX12 hown hK.1 hP hD hS 0 rfl rfl 5 (by decide) w2 (fun _ h9 => h9) rfl (by decide +kernel) rfl rfl (Nat.le_of_ble_eq_true rfl) dX12_becomes_134 (fun H locs hP hD hS => ?_)
          obtain ⟨hP, hD⟩ : PD D A [O12 a12 r12 v12_keptMany x40 v12_sheets v12_holes v12_worms v12_laidMany v12_wanted v12_orderMany v12_firstOrder v12_lines v12_marks v12_dots v12_madeIn v12_bound v12_places v12_maps v12_tapeMany v12_stories v12_base v12_at v12_ends v12_fault v12_opened v12_bodies v12_ran v12_ownKind v12_ownNumber, (cI κ (r12 0) 55 f12_may), (cI κ (r12 1) 40 g33), (cI κ (r12 2) 40 g36), (cI κ (r12 3) 40 g38)] H := ⟨hP, hD⟩
          refine lv_aload_n hx hb dX12_becomes_137 rfl (lv_at hl 2 rfl) ?_
          refine lv_aload_n hx hb dX12_becomes_138 rfl (lv_at hl 2 rfl) ?_
          refine va_get (D := D) (ci := 12) (v := .int x40) (C := RX12) (T := TX12) (N := 63) hx hb hts w1 hown hK.1 hP 0 rfl rfl 5 (by decide) w2 (fun _ h9 => h9) rfl dX12_becomes_139 ?_
          refine va_put (D := D) (ci := 12) (v := .int x40) (ty := .int) (C := RX12) (T := TX12) (N := 63) hx hb hts w1 tyX12 tyX12_ok nmX12 hown hK.1 hP hD hS 0 rfl rfl 4 (by decide) w6 (fun _ h9 => h9) rfl (by decide +kernel) rfl rfl (Nat.le_of_ble_eq_true rfl) dX12_becomes_142 (fun H locs hP hD hS => ?_)
          obtain ⟨hP, hD⟩ : PD D A [O12 a12 r12 x40 x40 v12_sheets v12_holes v12_worms v12_laidMany v12_wanted v12_orderMany v12_firstOrder v12_lines v12_marks v12_dots v12_madeIn v12_bound v12_places v12_maps v12_tapeMany v12_stories v12_base v12_at v12_ends v12_fault v12_opened v12_bodies v12_ran v12_ownKind v12_ownNumber, (cI κ (r12 0) 55 f12_may), (cI κ (r12 1) 40 g33), (cI κ (r12 2) 40 g36), (cI κ (r12 3) 40 g38)] H := ⟨hP, hD⟩
          have h43 : 0 ≤ x40.toInt ∧ x40.toInt ≤ 40 := by omega
          have h44 : x40.toInt ≤ x40.toInt := by omega
          refine lv_aload_n hx hb dX12_becomes_145 rfl (lv_at hl 2 rfl) ?_
          refine va_get (D := D) (ci := 12) (v := .ref (r12 0)) (C := RX12) (T := TX12) (N := 63) hx hb hts w1 hown hK.1 hP 0 rfl rfl 0 (by decide) w0 (fun _ h9 => h9) rfl dX12_becomes_146 ?_
          refine lv_iload_n hx hb dX12_becomes_149 rfl (lv_at hl 3 rfl) ?_
          refine lv_iload_n hx hb dX12_becomes_150 rfl (lv_at hl 4 rfl) ?_
          refine va_iast hx hb hK.1 hP hD hS 1 1 rfl rfl (i := p1) (ix (by omega) (by omega)) dX12_becomes_151 (fun H locs hP hD hS => ?_)
          obtain ⟨g45, e46⟩ : ∃ y : Nat → Int32, y = upd f12_may p1.toNatClampNeg p2 := ⟨_, rfl⟩
          rw [← e46] at hP hD
          obtain ⟨hP, hD⟩ : PD D A [O12 a12 r12 x40 x40 v12_sheets v12_holes v12_worms v12_laidMany v12_wanted v12_orderMany v12_firstOrder v12_lines v12_marks v12_dots v12_madeIn v12_bound v12_places v12_maps v12_tapeMany v12_stories v12_base v12_at v12_ends v12_fault v12_opened v12_bodies v12_ran v12_ownKind v12_ownNumber, (cI κ (r12 0) 55 g45), (cI κ (r12 1) 40 g33), (cI κ (r12 2) 40 g36), (cI κ (r12 3) 40 g38)] H := ⟨hP, hD⟩
          refine lv_iload_n hx hb dX12_becomes_152 rfl (lv_at hl 1 rfl) ?_
          have hpo : (0 ≤ x40.toInt ∧ x40.toInt ≤ 40) ∧ (0 ≤ x40.toInt ∧ x40.toInt ≤ 40) ∧ (∀ j : Nat, 0 ≤ (g33 j).toInt ∧ (g33 j).toInt ≤ 54) ∧ (x40.toInt ≤ x40.toInt) := ⟨h43, h43, h35, h44⟩
          exact ret _ _ _ _ x1 (x40, x40, g45, g33, g36, g38) dX12_becomes_153 hpo hP hD hS
        have c27 := ci_nle c27
        refine lv_aload_n hx hb dX12_becomes_33 rfl (lv_at hl 2 rfl) ?_
        refine va_get (D := D) (ci := 12) (v := .ref (r12 1)) (C := RX12) (T := TX12) (N := 63) hx hb hts w1 hown hK.1 hP 0 rfl rfl 1 (by decide) w3 (fun _ h9 => h9) rfl dX12_becomes_34 ?_
        refine lv_iload hx hb dX12_becomes_37 (lv_at hl 0 rfl) ?_
        refine lv_iconst (v := 1) hx hb dX12_becomes_39 (by decide) ?_
        refine lv_isub hx hb dX12_becomes_40 ?_
        refine lv_topi (fun x47 e48 => ?_)
        try have h49 : x47.toInt = k19.toInt - (1 : Int32).toInt := ci_sub e48 (by omega) (by omega)
        refine lv_aload_n hx hb dX12_becomes_41 rfl (lv_at hl 2 rfl) ?_
        refine va_get (D := D) (ci := 12) (v := .ref (r12 1)) (C := RX12) (T := TX12) (N := 63) hx hb hts w1 hown hK.1 hP 0 rfl rfl 1 (by decide) w3 (fun _ h9 => h9) rfl dX12_becomes_42 ?_
        refine lv_iload hx hb dX12_becomes_45 (lv_at hl 0 rfl) ?_
        refine va_iald hx hb hK.1 hP 2 1 rfl rfl (i := k19) (ix (by omega) (by omega)) dX12_becomes_47 ?_
        refine lv_topi (fun x50 e51 => ?_)
        have h52 : 0 ≤ x50.toInt ∧ x50.toInt ≤ 54 := by rw [e51]; exact h21 _
        refine va_iast hx hb hK.1 hP hD hS 2 1 rfl rfl (i := x47) (ix (by omega) (by omega)) dX12_becomes_48 (fun H locs hP hD hS => ?_)
        obtain ⟨g53, e54⟩ : ∃ y : Nat → Int32, y = upd g20 x47.toNatClampNeg x50 := ⟨_, rfl⟩
        rw [← e54] at hP hD
        obtain ⟨hP, hD⟩ : PD D A [O12 a12 r12 v12_keptMany v12_done v12_sheets v12_holes v12_worms v12_laidMany v12_wanted v12_orderMany v12_firstOrder v12_lines v12_marks v12_dots v12_madeIn v12_bound v12_places v12_maps v12_tapeMany v12_stories v12_base v12_at v12_ends v12_fault v12_opened v12_bodies v12_ran v12_ownKind v12_ownNumber, (cI κ (r12 0) 55 f12_may), (cI κ (r12 1) 40 g53), (cI κ (r12 2) 40 g22), (cI κ (r12 3) 40 g23)] H := ⟨hP, hD⟩
        have h55 : ∀ j : Nat, 0 ≤ (g53 j).toInt ∧ (g53 j).toInt ≤ 54 := by rw [e54]; exact all_upd (P := fun z => 0 ≤ z.toInt ∧ z.toInt ≤ 54) h21 (by omega)
        refine lv_aload_n hx hb dX12_becomes_49 rfl (lv_at hl 2 rfl) ?_
        refine va_get (D := D) (ci := 12) (v := .ref (r12 2)) (C := RX12) (T := TX12) (N := 63) hx hb hts w1 hown hK.1 hP 0 rfl rfl 2 (by decide) w4 (fun _ h9 => h9) rfl dX12_becomes_50 ?_
        refine lv_iload hx hb dX12_becomes_53 (lv_at hl 0 rfl) ?_
        refine lv_iconst (v := 1) hx hb dX12_becomes_55 (by decide) ?_
        refine lv_isub hx hb dX12_becomes_56 ?_
        refine lv_topi (fun x56 e57 => ?_)
        try have h58 : x56.toInt = k19.toInt - (1 : Int32).toInt := ci_sub e57 (by omega) (by omega)
        refine lv_aload_n hx hb dX12_becomes_57 rfl (lv_at hl 2 rfl) ?_
        refine va_get (D := D) (ci := 12) (v := .ref (r12 2)) (C := RX12) (T := TX12) (N := 63) hx hb hts w1 hown hK.1 hP 0 rfl rfl 2 (by decide) w4 (fun _ h9 => h9) rfl dX12_becomes_58 ?_
        refine lv_iload hx hb dX12_becomes_61 (lv_at hl 0 rfl) ?_
        refine va_iald hx hb hK.1 hP 3 1 rfl rfl (i := k19) (ix (by omega) (by omega)) dX12_becomes_63 ?_
        refine lv_topi (fun x59 e60 => ?_)
        refine va_iast hx hb hK.1 hP hD hS 3 1 rfl rfl (i := x56) (ix (by omega) (by omega)) dX12_becomes_64 (fun H locs hP hD hS => ?_)
        obtain ⟨g61, e62⟩ : ∃ y : Nat → Int32, y = upd g22 x56.toNatClampNeg x59 := ⟨_, rfl⟩
        rw [← e62] at hP hD
        obtain ⟨hP, hD⟩ : PD D A [O12 a12 r12 v12_keptMany v12_done v12_sheets v12_holes v12_worms v12_laidMany v12_wanted v12_orderMany v12_firstOrder v12_lines v12_marks v12_dots v12_madeIn v12_bound v12_places v12_maps v12_tapeMany v12_stories v12_base v12_at v12_ends v12_fault v12_opened v12_bodies v12_ran v12_ownKind v12_ownNumber, (cI κ (r12 0) 55 f12_may), (cI κ (r12 1) 40 g53), (cI κ (r12 2) 40 g61), (cI κ (r12 3) 40 g23)] H := ⟨hP, hD⟩
        refine lv_aload_n hx hb dX12_becomes_65 rfl (lv_at hl 2 rfl) ?_
        refine va_get (D := D) (ci := 12) (v := .ref (r12 3)) (C := RX12) (T := TX12) (N := 63) hx hb hts w1 hown hK.1 hP 0 rfl rfl 3 (by decide) w5 (fun _ h9 => h9) rfl dX12_becomes_66 ?_
        refine lv_iload hx hb dX12_becomes_69 (lv_at hl 0 rfl) ?_
        refine lv_iconst (v := 1) hx hb dX12_becomes_71 (by decide) ?_
        refine lv_isub hx hb dX12_becomes_72 ?_
        refine lv_topi (fun x63 e64 => ?_)
        try have h65 : x63.toInt = k19.toInt - (1 : Int32).toInt := ci_sub e64 (by omega) (by omega)
        refine lv_aload_n hx hb dX12_becomes_73 rfl (lv_at hl 2 rfl) ?_
        refine va_get (D := D) (ci := 12) (v := .ref (r12 3)) (C := RX12) (T := TX12) (N := 63) hx hb hts w1 hown hK.1 hP 0 rfl rfl 3 (by decide) w5 (fun _ h9 => h9) rfl dX12_becomes_74 ?_
        refine lv_iload hx hb dX12_becomes_77 (lv_at hl 0 rfl) ?_
        refine va_iald hx hb hK.1 hP 4 1 rfl rfl (i := k19) (ix (by omega) (by omega)) dX12_becomes_79 ?_
        refine lv_topi (fun x66 e67 => ?_)
        refine va_iast hx hb hK.1 hP hD hS 4 1 rfl rfl (i := x63) (ix (by omega) (by omega)) dX12_becomes_80 (fun H locs hP hD hS => ?_)
        obtain ⟨g68, e69⟩ : ∃ y : Nat → Int32, y = upd g23 x63.toNatClampNeg x66 := ⟨_, rfl⟩
        rw [← e69] at hP hD
        obtain ⟨hP, hD⟩ : PD D A [O12 a12 r12 v12_keptMany v12_done v12_sheets v12_holes v12_worms v12_laidMany v12_wanted v12_orderMany v12_firstOrder v12_lines v12_marks v12_dots v12_madeIn v12_bound v12_places v12_maps v12_tapeMany v12_stories v12_base v12_at v12_ends v12_fault v12_opened v12_bodies v12_ran v12_ownKind v12_ownNumber, (cI κ (r12 0) 55 f12_may), (cI κ (r12 1) 40 g53), (cI κ (r12 2) 40 g61), (cI κ (r12 3) 40 g68)] H := ⟨hP, hD⟩
        obtain ⟨x70, e71⟩ : ∃ y : Int32, y = k19 + 1 := ⟨_, rfl⟩
        refine lv_iinc (v := x70) (lv' := [(4, .int x70), (3, .int x1), (0, .ref a12), (1, .int p1), (2, .int p2)]) hx hb dX12_becomes_81 hl (k := 0) rfl (by rw [e71]; rfl) (by decide) rfl (fun ls hl => ?_)
        try have h72 : x70.toInt = k19.toInt + (1 : Int32).toInt := ci_add e71 (by omega) (by omega)
        refine lv_goto (tgt := 26) hx hb dX12_becomes_84 (by decide) ?_
        exact ih26 x70 g53 g61 g68 h55 (by omega) (by omega) (by omega) _ _ hP hD hS _ hl
    exact lp26 ((40 - (1 : Int32).toInt).toNat + 1) 1 f12_changeAt f12_changeWas f12_changeIs hf12_changeAt (by omega) (by omega) (by omega) _ _ hP hD hS _ hl
  have c3 := ci_eq c3
  refine lv_iload_n hx hb dX12_becomes_12 rfl (lv_at hl 0 rfl) ?_
  have hpo : (0 ≤ v12_keptMany.toInt ∧ v12_keptMany.toInt ≤ 40) ∧ (0 ≤ v12_done.toInt ∧ v12_done.toInt ≤ 40) ∧ (∀ j : Nat, 0 ≤ (f12_changeAt j).toInt ∧ (f12_changeAt j).toInt ≤ 54) ∧ (v12_done.toInt ≤ v12_keptMany.toInt) := ⟨i1, i2, hf12_changeAt, i17⟩
  exact ret _ _ _ _ x1 (v12_keptMany, v12_done, f12_may, f12_changeAt, f12_changeWas, f12_changeIs) dX12_becomes_13 hpo hP hD hS
set_option maxHeartbeats 4000000 in
set_option maxRecDepth 100000 in
theorem k_X12_undo (l : Launch) (D : va_G) (κ : Nat → ClassId) (β : Nat) (a12 : Nat) (r12 : Nat → Nat) (v12_keptMany : Int32) (v12_done : Int32) (v12_sheets : Int32) (v12_holes : Int32) (v12_worms : Int32) (v12_laidMany : Int32) (v12_wanted : Int32) (v12_orderMany : Int32) (v12_firstOrder : Int32) (v12_lines : Int32) (v12_marks : Int32) (v12_dots : Int32) (v12_madeIn : Int32) (v12_bound : Int32) (v12_places : Int32) (v12_maps : Int32) (v12_tapeMany : Int32) (v12_stories : Int32) (v12_base : Int32) (v12_at : Int32) (v12_ends : Int32) (v12_fault : Int32) (v12_opened : Int32) (v12_bodies : Int32) (v12_ran : Int32) (v12_ownKind : Int32) (v12_ownNumber : Int32) (f12_may : Nat → Int32) (f12_changeAt : Nat → Int32) (f12_changeWas : Nat → Int32) (sz : Nat) (i1 : Rg 0 40 v12_keptMany) (i2 : Rg 0 40 v12_done) (i3 : Rg 0 8 v12_sheets) (i4 : Rg 0 40 v12_holes) (i5 : Rg 0 40 v12_worms) (i6 : Rg 0 8 v12_laidMany) (i7 : Rg 0 8 v12_wanted) (i8 : Rg 0 20 v12_lines) (i9 : Rg 0 60 v12_marks) (i10 : Rg 0 40 v12_dots) (i11 : Rg 0 20 v12_places) (i12 : Rg 0 8 v12_maps) (i13 : Rg 0 120 v12_tapeMany) (i14 : Rg 0 6 v12_stories) (i15 : Rg 0 50 v12_bodies) (i16 : Rg 0 1000 v12_ran) (hf12_changeAt : ∀ j : Nat, 0 ≤ (f12_changeAt j).toInt ∧ (f12_changeAt j).toInt ≤ 54) (i17 : v12_done.toInt ≤ v12_keptMany.toInt) : Met l yX12_undo wsX12_undo ({ frames := 0, cells := 0, slots := 0, locals := 0 } : Room) (PcK D κ β [O12 a12 r12 v12_keptMany v12_done v12_sheets v12_holes v12_worms v12_laidMany v12_wanted v12_orderMany v12_firstOrder v12_lines v12_marks v12_dots v12_madeIn v12_bound v12_places v12_maps v12_tapeMany v12_stories v12_base v12_at v12_ends v12_fault v12_opened v12_bodies v12_ran v12_ownKind v12_ownNumber, (cI κ (r12 0) 55 f12_may), (cI κ (r12 1) 40 f12_changeAt), (cI κ (r12 2) 40 f12_changeWas)] sz [.ref a12]) (QiK D (fun (r : Int32) (u : Int32 × (Nat → Int32)) => (0 ≤ u.1.toInt ∧ u.1.toInt ≤ 40) ∧ (u.1.toInt ≤ v12_keptMany.toInt)) (fun (u : Int32 × (Nat → Int32)) => [O12 a12 r12 v12_keptMany u.1 v12_sheets v12_holes v12_worms v12_laidMany v12_wanted v12_orderMany v12_firstOrder v12_lines v12_marks v12_dots v12_madeIn v12_bound v12_places v12_maps v12_tapeMany v12_stories v12_base v12_at v12_ends v12_fault v12_opened v12_bodies v12_ran v12_ownKind v12_ownNumber, (cI κ (r12 0) 55 u.2), (cI κ (r12 1) 40 f12_changeAt), (cI κ (r12 2) 40 f12_changeWas)]) [O12 a12 r12 v12_keptMany v12_done v12_sheets v12_holes v12_worms v12_laidMany v12_wanted v12_orderMany v12_firstOrder v12_lines v12_marks v12_dots v12_madeIn v12_bound v12_places v12_maps v12_tapeMany v12_stories v12_base v12_at v12_ends v12_fault v12_opened v12_bodies v12_ran v12_ownKind v12_ownNumber, (cI κ (r12 0) 55 f12_may), (cI κ (r12 1) 40 f12_changeAt), (cI κ (r12 2) 40 f12_changeWas)] sz) 0 0 (va_A [O12 a12 r12 v12_keptMany v12_done v12_sheets v12_holes v12_worms v12_laidMany v12_wanted v12_orderMany v12_firstOrder v12_lines v12_marks v12_dots v12_madeIn v12_bound v12_places v12_maps v12_tapeMany v12_stories v12_base v12_at v12_ends v12_fault v12_opened v12_bodies v12_ran v12_ownKind v12_ownNumber, (cI κ (r12 0) 55 f12_may), (cI κ (r12 1) 40 f12_changeAt), (cI κ (r12 2) 40 f12_changeWas)] sz) := by
  refine ofK_i (cc := cX12_undo) (maxL := 1) (own := RX12) (by decide) rfl rfl (Nat.le_of_ble_eq_true rfl) ?_
  intro p e s m args below meth c Q A ls hsz hx hb hml hts hown hK hA hAB hP hD hl ret
  have hS : va_S A s.heap s.heap [] := va_S.rf
  have hl : lv_has ls 1 [(0, .ref a12)] := hl
  have w0 := hts (.fieldLink RX12 127 "OlderSkinModel" "done" "I") (List.mem_of_getElem? (i := 1) rfl)
  have w1 := (fun w h => List.mem_cons_of_mem _ (List.mem_append_right _ h) : ∀ w ∈ u_ws RX12 TX12 63, w ∈ wsX12_undo)
  have w2 := hts (.fieldLink RX12 9 "OlderSkinModel" "may" "[I") (List.mem_of_getElem? (i := 2) rfl)
  have w3 := hts (.fieldLink RX12 13 "OlderSkinModel" "changeAt" "[I") (List.mem_of_getElem? (i := 3) rfl)
  have w4 := hts (.fieldLink RX12 16 "OlderSkinModel" "changeWas" "[I") (List.mem_of_getElem? (i := 4) rfl)
  have l0 : (0 : Int32).toInt = 0 := by decide
  have l1 : (1 : Int32).toInt = 1 := by decide
  have l2 : ((-5) : Int32).toInt = -5 := by decide
  have i1 : 0 ≤ v12_keptMany.toInt ∧ v12_keptMany.toInt ≤ 40 := i1
  have i2 : 0 ≤ v12_done.toInt ∧ v12_done.toInt ≤ 40 := i2
  refine lv_aload_n hx hb dX12_undo_0 rfl (lv_at hl 0 rfl) ?_
  refine va_get (D := D) (ci := 12) (v := .int v12_done) (C := RX12) (T := TX12) (N := 63) hx hb hts w1 hown hK.1 hP 0 rfl rfl 5 (by decide) w0 (fun _ h9 => h9) rfl dX12_undo_1 ?_
  refine lv_if_ne (tgt := 10) hx hb dX12_undo_4 (by decide) (fun c1 => ?_) (fun c1 => ?_)
  · have c1 := ci_ne c1
    refine lv_aload_n hx hb dX12_undo_10 rfl (lv_at hl 0 rfl) ?_
    refine lv_dup hx hb dX12_undo_11 rfl ?_
    refine va_get (D := D) (ci := 12) (v := .int v12_done) (C := RX12) (T := TX12) (N := 63) hx hb hts w1 hown hK.1 hP 0 rfl rfl 5 (by decide) w0 (fun _ h9 => h9) rfl dX12_undo_12 ?_
    refine lv_iconst (v := 1) hx hb dX12_undo_15 (by decide) ?_
    refine lv_isub hx hb dX12_undo_16 ?_
    refine lv_topi (fun x2 e3 => ?_)
    try have h4 : x2.toInt = v12_done.toInt - (1 : Int32).toInt := ci_sub e3 (by omega) (by omega)
    refine va_put (D := D) (ci := 12) (v := .int x2) (ty := .int) (C := RX12) (T := TX12) (N := 63) hx hb hts w1 tyX12 tyX12_ok nmX12 hown hK.1 hP hD hS 0 rfl rfl 5 (by decide) w0 (fun _ h9 => h9) rfl (by decide +kernel) rfl rfl (Nat.le_of_ble_eq_true rfl) dX12_undo_17 (fun H locs hP hD hS => ?_)
    obtain ⟨hP, hD⟩ : PD D A [O12 a12 r12 v12_keptMany x2 v12_sheets v12_holes v12_worms v12_laidMany v12_wanted v12_orderMany v12_firstOrder v12_lines v12_marks v12_dots v12_madeIn v12_bound v12_places v12_maps v12_tapeMany v12_stories v12_base v12_at v12_ends v12_fault v12_opened v12_bodies v12_ran v12_ownKind v12_ownNumber, (cI κ (r12 0) 55 f12_may), (cI κ (r12 1) 40 f12_changeAt), (cI κ (r12 2) 40 f12_changeWas)] H := ⟨hP, hD⟩
    have h5 : 0 ≤ x2.toInt ∧ x2.toInt ≤ 40 := by omega
    have h6 : x2.toInt ≤ v12_keptMany.toInt := by omega
    refine lv_aload_n hx hb dX12_undo_20 rfl (lv_at hl 0 rfl) ?_
    refine va_get (D := D) (ci := 12) (v := .ref (r12 0)) (C := RX12) (T := TX12) (N := 63) hx hb hts w1 hown hK.1 hP 0 rfl rfl 0 (by decide) w2 (fun _ h9 => h9) rfl dX12_undo_21 ?_
    refine lv_aload_n hx hb dX12_undo_24 rfl (lv_at hl 0 rfl) ?_
    refine va_get (D := D) (ci := 12) (v := .ref (r12 1)) (C := RX12) (T := TX12) (N := 63) hx hb hts w1 hown hK.1 hP 0 rfl rfl 1 (by decide) w3 (fun _ h9 => h9) rfl dX12_undo_25 ?_
    refine lv_aload_n hx hb dX12_undo_28 rfl (lv_at hl 0 rfl) ?_
    refine va_get (D := D) (ci := 12) (v := .int x2) (C := RX12) (T := TX12) (N := 63) hx hb hts w1 hown hK.1 hP 0 rfl rfl 5 (by decide) w0 (fun _ h9 => h9) rfl dX12_undo_29 ?_
    refine va_iald hx hb hK.1 hP 2 1 rfl rfl (i := x2) (ix (by omega) (by omega)) dX12_undo_32 ?_
    refine lv_topi (fun x7 e8 => ?_)
    have h9 : 0 ≤ x7.toInt ∧ x7.toInt ≤ 54 := by rw [e8]; exact hf12_changeAt _
    refine lv_aload_n hx hb dX12_undo_33 rfl (lv_at hl 0 rfl) ?_
    refine va_get (D := D) (ci := 12) (v := .ref (r12 2)) (C := RX12) (T := TX12) (N := 63) hx hb hts w1 hown hK.1 hP 0 rfl rfl 2 (by decide) w4 (fun _ h9 => h9) rfl dX12_undo_34 ?_
    refine lv_aload_n hx hb dX12_undo_37 rfl (lv_at hl 0 rfl) ?_
    refine va_get (D := D) (ci := 12) (v := .int x2) (C := RX12) (T := TX12) (N := 63) hx hb hts w1 hown hK.1 hP 0 rfl rfl 5 (by decide) w0 (fun _ h9 => h9) rfl dX12_undo_38 ?_
    refine va_iald hx hb hK.1 hP 3 1 rfl rfl (i := x2) (ix (by omega) (by omega)) dX12_undo_41 ?_
    refine lv_topi (fun x10 e11 => ?_)
    refine va_iast hx hb hK.1 hP hD hS 1 1 rfl rfl (i := x7) (ix (by omega) (by omega)) dX12_undo_42 (fun H locs hP hD hS => ?_)
    obtain ⟨g12, e13⟩ : ∃ y : Nat → Int32, y = upd f12_may x7.toNatClampNeg x10 := ⟨_, rfl⟩
    rw [← e13] at hP hD
    obtain ⟨hP, hD⟩ : PD D A [O12 a12 r12 v12_keptMany x2 v12_sheets v12_holes v12_worms v12_laidMany v12_wanted v12_orderMany v12_firstOrder v12_lines v12_marks v12_dots v12_madeIn v12_bound v12_places v12_maps v12_tapeMany v12_stories v12_base v12_at v12_ends v12_fault v12_opened v12_bodies v12_ran v12_ownKind v12_ownNumber, (cI κ (r12 0) 55 g12), (cI κ (r12 1) 40 f12_changeAt), (cI κ (r12 2) 40 f12_changeWas)] H := ⟨hP, hD⟩
    refine lv_aload_n hx hb dX12_undo_43 rfl (lv_at hl 0 rfl) ?_
    refine va_get (D := D) (ci := 12) (v := .int x2) (C := RX12) (T := TX12) (N := 63) hx hb hts w1 hown hK.1 hP 0 rfl rfl 5 (by decide) w0 (fun _ h9 => h9) rfl dX12_undo_44 ?_
    have hpo : (0 ≤ x2.toInt ∧ x2.toInt ≤ 40) ∧ (x2.toInt ≤ v12_keptMany.toInt) := ⟨h5, h6⟩
    exact ret _ _ _ _ x2 (x2, g12) dX12_undo_47 hpo hP hD hS
  have c1 := ci_eq c1
  refine lv_bipush (v := (-5)) hx hb dX12_undo_7 (by decide) ?_
  have hpo : (0 ≤ v12_done.toInt ∧ v12_done.toInt ≤ 40) ∧ (v12_done.toInt ≤ v12_keptMany.toInt) := ⟨i2, i17⟩
  exact ret _ _ _ _ (-5) (v12_done, f12_may) dX12_undo_9 hpo hP hD hS
set_option maxHeartbeats 4000000 in
set_option maxRecDepth 100000 in
theorem k_X12_redo (l : Launch) (D : va_G) (κ : Nat → ClassId) (β : Nat) (a12 : Nat) (r12 : Nat → Nat) (v12_keptMany : Int32) (v12_done : Int32) (v12_sheets : Int32) (v12_holes : Int32) (v12_worms : Int32) (v12_laidMany : Int32) (v12_wanted : Int32) (v12_orderMany : Int32) (v12_firstOrder : Int32) (v12_lines : Int32) (v12_marks : Int32) (v12_dots : Int32) (v12_madeIn : Int32) (v12_bound : Int32) (v12_places : Int32) (v12_maps : Int32) (v12_tapeMany : Int32) (v12_stories : Int32) (v12_base : Int32) (v12_at : Int32) (v12_ends : Int32) (v12_fault : Int32) (v12_opened : Int32) (v12_bodies : Int32) (v12_ran : Int32) (v12_ownKind : Int32) (v12_ownNumber : Int32) (f12_may : Nat → Int32) (f12_changeAt : Nat → Int32) (f12_changeIs : Nat → Int32) (sz : Nat) (i1 : Rg 0 40 v12_keptMany) (i2 : Rg 0 40 v12_done) (i3 : Rg 0 8 v12_sheets) (i4 : Rg 0 40 v12_holes) (i5 : Rg 0 40 v12_worms) (i6 : Rg 0 8 v12_laidMany) (i7 : Rg 0 8 v12_wanted) (i8 : Rg 0 20 v12_lines) (i9 : Rg 0 60 v12_marks) (i10 : Rg 0 40 v12_dots) (i11 : Rg 0 20 v12_places) (i12 : Rg 0 8 v12_maps) (i13 : Rg 0 120 v12_tapeMany) (i14 : Rg 0 6 v12_stories) (i15 : Rg 0 50 v12_bodies) (i16 : Rg 0 1000 v12_ran) (hf12_changeAt : ∀ j : Nat, 0 ≤ (f12_changeAt j).toInt ∧ (f12_changeAt j).toInt ≤ 54) (i17 : v12_done.toInt ≤ v12_keptMany.toInt) : Met l yX12_redo wsX12_redo ({ frames := 0, cells := 0, slots := 0, locals := 0 } : Room) (PcK D κ β [O12 a12 r12 v12_keptMany v12_done v12_sheets v12_holes v12_worms v12_laidMany v12_wanted v12_orderMany v12_firstOrder v12_lines v12_marks v12_dots v12_madeIn v12_bound v12_places v12_maps v12_tapeMany v12_stories v12_base v12_at v12_ends v12_fault v12_opened v12_bodies v12_ran v12_ownKind v12_ownNumber, (cI κ (r12 0) 55 f12_may), (cI κ (r12 1) 40 f12_changeAt), (cI κ (r12 3) 40 f12_changeIs)] sz [.ref a12]) (QiK D (fun (r : Int32) (u : Int32 × (Nat → Int32)) => (0 ≤ u.1.toInt ∧ u.1.toInt ≤ 40) ∧ (u.1.toInt ≤ v12_keptMany.toInt)) (fun (u : Int32 × (Nat → Int32)) => [O12 a12 r12 v12_keptMany u.1 v12_sheets v12_holes v12_worms v12_laidMany v12_wanted v12_orderMany v12_firstOrder v12_lines v12_marks v12_dots v12_madeIn v12_bound v12_places v12_maps v12_tapeMany v12_stories v12_base v12_at v12_ends v12_fault v12_opened v12_bodies v12_ran v12_ownKind v12_ownNumber, (cI κ (r12 0) 55 u.2), (cI κ (r12 1) 40 f12_changeAt), (cI κ (r12 3) 40 f12_changeIs)]) [O12 a12 r12 v12_keptMany v12_done v12_sheets v12_holes v12_worms v12_laidMany v12_wanted v12_orderMany v12_firstOrder v12_lines v12_marks v12_dots v12_madeIn v12_bound v12_places v12_maps v12_tapeMany v12_stories v12_base v12_at v12_ends v12_fault v12_opened v12_bodies v12_ran v12_ownKind v12_ownNumber, (cI κ (r12 0) 55 f12_may), (cI κ (r12 1) 40 f12_changeAt), (cI κ (r12 3) 40 f12_changeIs)] sz) 0 0 (va_A [O12 a12 r12 v12_keptMany v12_done v12_sheets v12_holes v12_worms v12_laidMany v12_wanted v12_orderMany v12_firstOrder v12_lines v12_marks v12_dots v12_madeIn v12_bound v12_places v12_maps v12_tapeMany v12_stories v12_base v12_at v12_ends v12_fault v12_opened v12_bodies v12_ran v12_ownKind v12_ownNumber, (cI κ (r12 0) 55 f12_may), (cI κ (r12 1) 40 f12_changeAt), (cI κ (r12 3) 40 f12_changeIs)] sz) := by
  refine ofK_i (cc := cX12_redo) (maxL := 1) (own := RX12) (by decide) rfl rfl (Nat.le_of_ble_eq_true rfl) ?_
  intro p e s m args below meth c Q A ls hsz hx hb hml hts hown hK hA hAB hP hD hl ret
  have hS : va_S A s.heap s.heap [] := va_S.rf
  have hl : lv_has ls 1 [(0, .ref a12)] := hl
  have w0 := hts (.fieldLink RX12 127 "OlderSkinModel" "done" "I") (List.mem_of_getElem? (i := 1) rfl)
  have w1 := (fun w h => List.mem_cons_of_mem _ (List.mem_append_right _ h) : ∀ w ∈ u_ws RX12 TX12 63, w ∈ wsX12_redo)
  have w2 := hts (.fieldLink RX12 130 "OlderSkinModel" "keptMany" "I") (List.mem_of_getElem? (i := 2) rfl)
  have w3 := hts (.fieldLink RX12 9 "OlderSkinModel" "may" "[I") (List.mem_of_getElem? (i := 3) rfl)
  have w4 := hts (.fieldLink RX12 13 "OlderSkinModel" "changeAt" "[I") (List.mem_of_getElem? (i := 4) rfl)
  have w5 := hts (.fieldLink RX12 19 "OlderSkinModel" "changeIs" "[I") (List.mem_of_getElem? (i := 5) rfl)
  have l0 : (0 : Int32).toInt = 0 := by decide
  have l1 : (1 : Int32).toInt = 1 := by decide
  have l2 : ((-5) : Int32).toInt = -5 := by decide
  have i1 : 0 ≤ v12_keptMany.toInt ∧ v12_keptMany.toInt ≤ 40 := i1
  have i2 : 0 ≤ v12_done.toInt ∧ v12_done.toInt ≤ 40 := i2
  refine lv_aload_n hx hb dX12_redo_0 rfl (lv_at hl 0 rfl) ?_
  refine va_get (D := D) (ci := 12) (v := .int v12_done) (C := RX12) (T := TX12) (N := 63) hx hb hts w1 hown hK.1 hP 0 rfl rfl 5 (by decide) w0 (fun _ h9 => h9) rfl dX12_redo_1 ?_
  refine lv_aload_n hx hb dX12_redo_4 rfl (lv_at hl 0 rfl) ?_
  refine va_get (D := D) (ci := 12) (v := .int v12_keptMany) (C := RX12) (T := TX12) (N := 63) hx hb hts w1 hown hK.1 hP 0 rfl rfl 4 (by decide) w2 (fun _ h9 => h9) rfl dX12_redo_5 ?_
  refine lv_icmp_ne (tgt := 14) hx hb dX12_redo_8 (by decide) (fun c1 => ?_) (fun c1 => ?_)
  · have c1 := ci_ne c1
    refine lv_aload_n hx hb dX12_redo_14 rfl (lv_at hl 0 rfl) ?_
    refine va_get (D := D) (ci := 12) (v := .ref (r12 0)) (C := RX12) (T := TX12) (N := 63) hx hb hts w1 hown hK.1 hP 0 rfl rfl 0 (by decide) w3 (fun _ h9 => h9) rfl dX12_redo_15 ?_
    refine lv_aload_n hx hb dX12_redo_18 rfl (lv_at hl 0 rfl) ?_
    refine va_get (D := D) (ci := 12) (v := .ref (r12 1)) (C := RX12) (T := TX12) (N := 63) hx hb hts w1 hown hK.1 hP 0 rfl rfl 1 (by decide) w4 (fun _ h9 => h9) rfl dX12_redo_19 ?_
    refine lv_aload_n hx hb dX12_redo_22 rfl (lv_at hl 0 rfl) ?_
    refine va_get (D := D) (ci := 12) (v := .int v12_done) (C := RX12) (T := TX12) (N := 63) hx hb hts w1 hown hK.1 hP 0 rfl rfl 5 (by decide) w0 (fun _ h9 => h9) rfl dX12_redo_23 ?_
    refine va_iald hx hb hK.1 hP 2 1 rfl rfl (i := v12_done) (ix (by omega) (by omega)) dX12_redo_26 ?_
    refine lv_topi (fun x2 e3 => ?_)
    have h4 : 0 ≤ x2.toInt ∧ x2.toInt ≤ 54 := by rw [e3]; exact hf12_changeAt _
    refine lv_aload_n hx hb dX12_redo_27 rfl (lv_at hl 0 rfl) ?_
    refine va_get (D := D) (ci := 12) (v := .ref (r12 3)) (C := RX12) (T := TX12) (N := 63) hx hb hts w1 hown hK.1 hP 0 rfl rfl 3 (by decide) w5 (fun _ h9 => h9) rfl dX12_redo_28 ?_
    refine lv_aload_n hx hb dX12_redo_31 rfl (lv_at hl 0 rfl) ?_
    refine va_get (D := D) (ci := 12) (v := .int v12_done) (C := RX12) (T := TX12) (N := 63) hx hb hts w1 hown hK.1 hP 0 rfl rfl 5 (by decide) w0 (fun _ h9 => h9) rfl dX12_redo_32 ?_
    refine va_iald hx hb hK.1 hP 3 1 rfl rfl (i := v12_done) (ix (by omega) (by omega)) dX12_redo_35 ?_
    refine lv_topi (fun x5 e6 => ?_)
    refine va_iast hx hb hK.1 hP hD hS 1 1 rfl rfl (i := x2) (ix (by omega) (by omega)) dX12_redo_36 (fun H locs hP hD hS => ?_)
    obtain ⟨g7, e8⟩ : ∃ y : Nat → Int32, y = upd f12_may x2.toNatClampNeg x5 := ⟨_, rfl⟩
    rw [← e8] at hP hD
    obtain ⟨hP, hD⟩ : PD D A [O12 a12 r12 v12_keptMany v12_done v12_sheets v12_holes v12_worms v12_laidMany v12_wanted v12_orderMany v12_firstOrder v12_lines v12_marks v12_dots v12_madeIn v12_bound v12_places v12_maps v12_tapeMany v12_stories v12_base v12_at v12_ends v12_fault v12_opened v12_bodies v12_ran v12_ownKind v12_ownNumber, (cI κ (r12 0) 55 g7), (cI κ (r12 1) 40 f12_changeAt), (cI κ (r12 3) 40 f12_changeIs)] H := ⟨hP, hD⟩
    refine lv_aload_n hx hb dX12_redo_37 rfl (lv_at hl 0 rfl) ?_
    refine lv_dup hx hb dX12_redo_38 rfl ?_
    refine va_get (D := D) (ci := 12) (v := .int v12_done) (C := RX12) (T := TX12) (N := 63) hx hb hts w1 hown hK.1 hP 0 rfl rfl 5 (by decide) w0 (fun _ h9 => h9) rfl dX12_redo_39 ?_
    refine lv_iconst (v := 1) hx hb dX12_redo_42 (by decide) ?_
    refine lv_iadd hx hb dX12_redo_43 ?_
    refine lv_topi (fun x9 e10 => ?_)
    try have h11 : x9.toInt = v12_done.toInt + (1 : Int32).toInt := ci_add e10 (by omega) (by omega)
    refine va_put (D := D) (ci := 12) (v := .int x9) (ty := .int) (C := RX12) (T := TX12) (N := 63) hx hb hts w1 tyX12 tyX12_ok nmX12 hown hK.1 hP hD hS 0 rfl rfl 5 (by decide) w0 (fun _ h9 => h9) rfl (by decide +kernel) rfl rfl (Nat.le_of_ble_eq_true rfl) dX12_redo_44 (fun H locs hP hD hS => ?_)
    obtain ⟨hP, hD⟩ : PD D A [O12 a12 r12 v12_keptMany x9 v12_sheets v12_holes v12_worms v12_laidMany v12_wanted v12_orderMany v12_firstOrder v12_lines v12_marks v12_dots v12_madeIn v12_bound v12_places v12_maps v12_tapeMany v12_stories v12_base v12_at v12_ends v12_fault v12_opened v12_bodies v12_ran v12_ownKind v12_ownNumber, (cI κ (r12 0) 55 g7), (cI κ (r12 1) 40 f12_changeAt), (cI κ (r12 3) 40 f12_changeIs)] H := ⟨hP, hD⟩
    have h12 : 0 ≤ x9.toInt ∧ x9.toInt ≤ 40 := by omega
    have h13 : x9.toInt ≤ v12_keptMany.toInt := by omega
    refine lv_aload_n hx hb dX12_redo_47 rfl (lv_at hl 0 rfl) ?_
    refine va_get (D := D) (ci := 12) (v := .int v12_keptMany) (C := RX12) (T := TX12) (N := 63) hx hb hts w1 hown hK.1 hP 0 rfl rfl 4 (by decide) w2 (fun _ h9 => h9) rfl dX12_redo_48 ?_
    refine lv_aload_n hx hb dX12_redo_51 rfl (lv_at hl 0 rfl) ?_
    refine va_get (D := D) (ci := 12) (v := .int x9) (C := RX12) (T := TX12) (N := 63) hx hb hts w1 hown hK.1 hP 0 rfl rfl 5 (by decide) w0 (fun _ h9 => h9) rfl dX12_redo_52 ?_
    refine lv_isub hx hb dX12_redo_55 ?_
    refine lv_topi (fun x14 e15 => ?_)
    try have h16 : x14.toInt = v12_keptMany.toInt - x9.toInt := ci_sub e15 (by omega) (by omega)
    have hpo : (0 ≤ x9.toInt ∧ x9.toInt ≤ 40) ∧ (x9.toInt ≤ v12_keptMany.toInt) := ⟨h12, h13⟩
    exact ret _ _ _ _ x14 (x9, g7) dX12_redo_56 hpo hP hD hS
  have c1 := ci_eq c1
  refine lv_bipush (v := (-5)) hx hb dX12_redo_11 (by decide) ?_
  have hpo : (0 ≤ v12_done.toInt ∧ v12_done.toInt ≤ 40) ∧ (v12_done.toInt ≤ v12_keptMany.toInt) := ⟨i2, i17⟩
  exact ret _ _ _ _ (-5) (v12_done, f12_may) dX12_redo_13 hpo hP hD hS
set_option maxHeartbeats 4000000 in
set_option maxRecDepth 100000 in
theorem k_X12_age (l : Launch) (D : va_G) (κ : Nat → ClassId) (β : Nat) (a12 : Nat) (r12 : Nat → Nat) (v12_keptMany : Int32) (v12_done : Int32) (v12_sheets : Int32) (v12_holes : Int32) (v12_worms : Int32) (v12_laidMany : Int32) (v12_wanted : Int32) (v12_orderMany : Int32) (v12_firstOrder : Int32) (v12_lines : Int32) (v12_marks : Int32) (v12_dots : Int32) (v12_madeIn : Int32) (v12_bound : Int32) (v12_places : Int32) (v12_maps : Int32) (v12_tapeMany : Int32) (v12_stories : Int32) (v12_base : Int32) (v12_at : Int32) (v12_ends : Int32) (v12_fault : Int32) (v12_opened : Int32) (v12_bodies : Int32) (v12_ran : Int32) (v12_ownKind : Int32) (v12_ownNumber : Int32) (f12_may : Nat → Int32) (f12_changeAt : Nat → Int32) (f12_changeWas : Nat → Int32) (f12_changeIs : Nat → Int32) (sz : Nat) (p1 : Int32) (p2 : Int32) (i1 : Rg 0 40 v12_keptMany) (i2 : Rg 0 40 v12_done) (i3 : Rg 0 8 v12_sheets) (i4 : Rg 0 40 v12_holes) (i5 : Rg 0 40 v12_worms) (i6 : Rg 0 8 v12_laidMany) (i7 : Rg 0 8 v12_wanted) (i8 : Rg 0 20 v12_lines) (i9 : Rg 0 60 v12_marks) (i10 : Rg 0 40 v12_dots) (i11 : Rg 0 20 v12_places) (i12 : Rg 0 8 v12_maps) (i13 : Rg 0 120 v12_tapeMany) (i14 : Rg 0 6 v12_stories) (i15 : Rg 0 50 v12_bodies) (i16 : Rg 0 1000 v12_ran) (hf12_changeAt : ∀ j : Nat, 0 ≤ (f12_changeAt j).toInt ∧ (f12_changeAt j).toInt ≤ 54) (i17 : v12_done.toInt ≤ v12_keptMany.toInt) : Met l yX12_age wsX12_age ({ frames := 2, cells := 0, slots := 0, locals := 46 } : Room) (PcK D κ β [O12 a12 r12 v12_keptMany v12_done v12_sheets v12_holes v12_worms v12_laidMany v12_wanted v12_orderMany v12_firstOrder v12_lines v12_marks v12_dots v12_madeIn v12_bound v12_places v12_maps v12_tapeMany v12_stories v12_base v12_at v12_ends v12_fault v12_opened v12_bodies v12_ran v12_ownKind v12_ownNumber, (cI κ (r12 0) 55 f12_may), (cI κ (r12 1) 40 f12_changeAt), (cI κ (r12 2) 40 f12_changeWas), (cI κ (r12 3) 40 f12_changeIs)] sz [.ref a12, .int p1, .int p2]) (QiK D (fun (r : Int32) (u : Int32 × Int32 × (Nat → Int32) × (Nat → Int32) × (Nat → Int32) × (Nat → Int32)) => (0 ≤ u.1.toInt ∧ u.1.toInt ≤ 40) ∧ (0 ≤ u.2.1.toInt ∧ u.2.1.toInt ≤ 40) ∧ (∀ j : Nat, 0 ≤ (u.2.2.2.1 j).toInt ∧ (u.2.2.2.1 j).toInt ≤ 54) ∧ (u.2.1.toInt ≤ u.1.toInt)) (fun (u : Int32 × Int32 × (Nat → Int32) × (Nat → Int32) × (Nat → Int32) × (Nat → Int32)) => [O12 a12 r12 u.1 u.2.1 v12_sheets v12_holes v12_worms v12_laidMany v12_wanted v12_orderMany v12_firstOrder v12_lines v12_marks v12_dots v12_madeIn v12_bound v12_places v12_maps v12_tapeMany v12_stories v12_base v12_at v12_ends v12_fault v12_opened v12_bodies v12_ran v12_ownKind v12_ownNumber, (cI κ (r12 0) 55 u.2.2.1), (cI κ (r12 1) 40 u.2.2.2.1), (cI κ (r12 2) 40 u.2.2.2.2.1), (cI κ (r12 3) 40 u.2.2.2.2.2)]) [O12 a12 r12 v12_keptMany v12_done v12_sheets v12_holes v12_worms v12_laidMany v12_wanted v12_orderMany v12_firstOrder v12_lines v12_marks v12_dots v12_madeIn v12_bound v12_places v12_maps v12_tapeMany v12_stories v12_base v12_at v12_ends v12_fault v12_opened v12_bodies v12_ran v12_ownKind v12_ownNumber, (cI κ (r12 0) 55 f12_may), (cI κ (r12 1) 40 f12_changeAt), (cI κ (r12 2) 40 f12_changeWas), (cI κ (r12 3) 40 f12_changeIs)] sz) 0 0 (va_A [O12 a12 r12 v12_keptMany v12_done v12_sheets v12_holes v12_worms v12_laidMany v12_wanted v12_orderMany v12_firstOrder v12_lines v12_marks v12_dots v12_madeIn v12_bound v12_places v12_maps v12_tapeMany v12_stories v12_base v12_at v12_ends v12_fault v12_opened v12_bodies v12_ran v12_ownKind v12_ownNumber, (cI κ (r12 0) 55 f12_may), (cI κ (r12 1) 40 f12_changeAt), (cI κ (r12 2) 40 f12_changeWas), (cI κ (r12 3) 40 f12_changeIs)] sz) := by
  refine ofK_i (cc := cX12_age) (maxL := 3) (own := RX12) (by decide) rfl rfl (Nat.le_of_ble_eq_true rfl) ?_
  intro p e s m args below meth c Q A ls hsz hx hb hml hts hown hK hA hAB hP hD hl ret
  have hS : va_S A s.heap s.heap [] := va_S.rf
  have hl : lv_has ls 3 [(0, .ref a12), (1, .int p1), (2, .int p2)] := hl
  have l0 : (0 : Int32).toInt = 0 := by decide
  have l1 : ((-1) : Int32).toInt = -1 := by decide
  have l2 : (47 : Int32).toInt = 47 := by decide
  have i3 : 0 ≤ v12_sheets.toInt ∧ v12_sheets.toInt ≤ 8 := i3
  refine lv_aload_n hx hb dX12_age_0 rfl (lv_at hl 0 rfl) ?_
  refine lv_iload_n hx hb dX12_age_1 rfl (lv_at hl 1 rfl) ?_
  refine kcm_i hA hAB hP hD hS [true, false, false, false, false] rfl (fun _ => rfl) (fun hPc hDc => va_runV (As := [.int p1]) (rest := []) ⟨hx, hb, hml, hown, hts⟩ (k_X12_isSheet l D κ β a12 r12 v12_keptMany v12_done v12_sheets v12_holes v12_worms v12_laidMany v12_wanted v12_orderMany v12_firstOrder v12_lines v12_marks v12_dots v12_madeIn v12_bound v12_places v12_maps v12_tapeMany v12_stories v12_base v12_at v12_ends v12_fault v12_opened v12_bodies v12_ran v12_ownKind v12_ownNumber s.heap.size p1 i1 i2 i3 i4 i5 i6 i7 i8 i9 i10 i11 i12 i13 i14 i15 i16 i17) (cwV 1 hts gX12_age_X12_isSheet rfl rfl rfl (by decide +kernel) ⟨Nat.le_of_ble_eq_true rfl, Nat.le_of_ble_eq_true rfl⟩) (pk_V hK hS hAB hPc hDc 0 (ci := 12) rfl rfl rfl) rfl rfl hl.1 rfl (lv_room (Nat.le_of_ble_eq_true rfl)) dX12_age_2 ⟨Nat.le_of_ble_eq_true rfl, Nat.le_of_ble_eq_true rfl⟩) (fun x1 u2 H locs hw hPD hS => ?_)
  have h3 : (x1.toInt = 1 ∧ 0 ≤ p1.toInt ∧ p1.toInt < v12_sheets.toInt) ∨ (x1.toInt = 0 ∧ (p1.toInt < 0 ∨ v12_sheets.toInt ≤ p1.toInt)) := hw
  obtain ⟨hP, hD⟩ : PD D A [O12 a12 r12 v12_keptMany v12_done v12_sheets v12_holes v12_worms v12_laidMany v12_wanted v12_orderMany v12_firstOrder v12_lines v12_marks v12_dots v12_madeIn v12_bound v12_places v12_maps v12_tapeMany v12_stories v12_base v12_at v12_ends v12_fault v12_opened v12_bodies v12_ran v12_ownKind v12_ownNumber, (cI κ (r12 0) 55 f12_may), (cI κ (r12 1) 40 f12_changeAt), (cI κ (r12 2) 40 f12_changeWas), (cI κ (r12 3) 40 f12_changeIs)] H := hPD
  refine lv_if_eq (tgt := 27) hx hb dX12_age_5 (by decide) (fun c4 => ?_) (fun c4 => ?_)
  · have c4 := ci_eq c4
    refine lv_iconst (v := (-1)) hx hb dX12_age_27 (by decide) ?_
    have hpo : (0 ≤ v12_keptMany.toInt ∧ v12_keptMany.toInt ≤ 40) ∧ (0 ≤ v12_done.toInt ∧ v12_done.toInt ≤ 40) ∧ (∀ j : Nat, 0 ≤ (f12_changeAt j).toInt ∧ (f12_changeAt j).toInt ≤ 54) ∧ (v12_done.toInt ≤ v12_keptMany.toInt) := ⟨i1, i2, hf12_changeAt, i17⟩
    exact ret _ _ _ _ (-1) (v12_keptMany, v12_done, f12_may, f12_changeAt, f12_changeWas, f12_changeIs) dX12_age_28 hpo hP hD hS
  have c4 := ci_ne c4
  refine lv_iload_n hx hb dX12_age_8 rfl (lv_at hl 2 rfl) ?_
  refine kcm_i hA hAB hP hD hS [false, false, false, false, false] rfl (fun _ => rfl) (fun hPc hDc => va_runS (As := [.int p2]) (rest := []) ⟨hx, hb, hml, hown, hts⟩ (k_X12_isYear l D κ β H.size p2) (va_cwS 1 hts gX12_age_X12_isYear rfl rfl rfl (by decide +kernel) ⟨Nat.le_of_ble_eq_true rfl, Nat.le_of_ble_eq_true rfl⟩) (pk_S hK hS hAB hPc hDc) rfl rfl hl.1 rfl (lv_room (Nat.le_of_ble_eq_true rfl)) dX12_age_9 ⟨Nat.le_of_ble_eq_true rfl, Nat.le_of_ble_eq_true rfl⟩) (fun x5 u6 H locs hw hPD hS => ?_)
  have h7 : (x5.toInt = 1 ∧ 0 ≤ p2.toInt ∧ p2.toInt ≤ 2000) ∨ (x5.toInt = 0 ∧ (p2.toInt < 0 ∨ 2000 < p2.toInt)) := hw
  obtain ⟨hP, hD⟩ : PD D A [O12 a12 r12 v12_keptMany v12_done v12_sheets v12_holes v12_worms v12_laidMany v12_wanted v12_orderMany v12_firstOrder v12_lines v12_marks v12_dots v12_madeIn v12_bound v12_places v12_maps v12_tapeMany v12_stories v12_base v12_at v12_ends v12_fault v12_opened v12_bodies v12_ran v12_ownKind v12_ownNumber, (cI κ (r12 0) 55 f12_may), (cI κ (r12 1) 40 f12_changeAt), (cI κ (r12 2) 40 f12_changeWas), (cI κ (r12 3) 40 f12_changeIs)] H := hPD
  refine lv_if_eq (tgt := 27) hx hb dX12_age_12 (by decide) (fun c8 => ?_) (fun c8 => ?_)
  · have c8 := ci_eq c8
    refine lv_iconst (v := (-1)) hx hb dX12_age_27 (by decide) ?_
    have hpo : (0 ≤ v12_keptMany.toInt ∧ v12_keptMany.toInt ≤ 40) ∧ (0 ≤ v12_done.toInt ∧ v12_done.toInt ≤ 40) ∧ (∀ j : Nat, 0 ≤ (f12_changeAt j).toInt ∧ (f12_changeAt j).toInt ≤ 54) ∧ (v12_done.toInt ≤ v12_keptMany.toInt) := ⟨i1, i2, hf12_changeAt, i17⟩
    exact ret _ _ _ _ (-1) (v12_keptMany, v12_done, f12_may, f12_changeAt, f12_changeWas, f12_changeIs) dX12_age_28 hpo hP hD hS
  have c8 := ci_ne c8
  refine lv_aload_n hx hb dX12_age_15 rfl (lv_at hl 0 rfl) ?_
  refine lv_bipush (v := 47) hx hb dX12_age_16 (by decide) ?_
  refine lv_iload_n hx hb dX12_age_18 rfl (lv_at hl 1 rfl) ?_
  refine lv_iadd hx hb dX12_age_19 ?_
  refine lv_topi (fun x9 e10 => ?_)
  try have h11 : x9.toInt = (47 : Int32).toInt + p1.toInt := ci_add e10 (by omega) (by omega)
  refine lv_iload_n hx hb dX12_age_20 rfl (lv_at hl 2 rfl) ?_
  refine kcm_i hA hAB hP hD hS [true, true, true, true, true] rfl (fun _ => rfl) (fun hPc hDc => va_runV (As := [.int x9, .int p2]) (rest := []) ⟨hx, hb, hml, hown, hts⟩ (k_X12_becomes l D κ β a12 r12 v12_keptMany v12_done v12_sheets v12_holes v12_worms v12_laidMany v12_wanted v12_orderMany v12_firstOrder v12_lines v12_marks v12_dots v12_madeIn v12_bound v12_places v12_maps v12_tapeMany v12_stories v12_base v12_at v12_ends v12_fault v12_opened v12_bodies v12_ran v12_ownKind v12_ownNumber f12_may f12_changeAt f12_changeWas f12_changeIs H.size x9 p2 i1 i2 i3 i4 i5 i6 i7 i8 i9 i10 i11 i12 i13 i14 i15 i16 hf12_changeAt i17 (by omega)) (cwV 2 hts gX12_age_X12_becomes rfl rfl rfl (by decide +kernel) ⟨Nat.le_of_ble_eq_true rfl, Nat.le_of_ble_eq_true rfl⟩) (pk_V hK hS hAB hPc hDc 0 (ci := 12) rfl rfl rfl) rfl rfl hl.1 rfl (lv_room (Nat.le_of_ble_eq_true rfl)) dX12_age_21 ⟨Nat.le_of_ble_eq_true rfl, Nat.le_of_ble_eq_true rfl⟩) (fun x18 u19 H locs hw hPD hS => ?_)
  obtain ⟨x12, x13, g14, g15, g16, g17⟩ := u19
  obtain ⟨h20, h21, h22, h23⟩ : (Rg 0 40 x12) ∧ (Rg 0 40 x13) ∧ (∀ j : Nat, 0 ≤ (g15 j).toInt ∧ (g15 j).toInt ≤ 54) ∧ (x13.toInt ≤ x12.toInt) := hw
  obtain ⟨hP, hD⟩ : PD D A [O12 a12 r12 x12 x13 v12_sheets v12_holes v12_worms v12_laidMany v12_wanted v12_orderMany v12_firstOrder v12_lines v12_marks v12_dots v12_madeIn v12_bound v12_places v12_maps v12_tapeMany v12_stories v12_base v12_at v12_ends v12_fault v12_opened v12_bodies v12_ran v12_ownKind v12_ownNumber, (cI κ (r12 0) 55 g14), (cI κ (r12 1) 40 g15), (cI κ (r12 2) 40 g16), (cI κ (r12 3) 40 g17)] H := hPD
  refine lv_goto (tgt := 28) hx hb dX12_age_24 (by decide) ?_
  have hpo : (0 ≤ x12.toInt ∧ x12.toInt ≤ 40) ∧ (0 ≤ x13.toInt ∧ x13.toInt ≤ 40) ∧ (∀ j : Nat, 0 ≤ (g15 j).toInt ∧ (g15 j).toInt ≤ 54) ∧ (x13.toInt ≤ x12.toInt) := ⟨h20, h21, h22, h23⟩
  exact ret _ _ _ _ x18 (x12, x13, g14, g15, g16, g17) dX12_age_28 hpo hP hD hS
set_option maxHeartbeats 4000000 in
set_option maxRecDepth 100000 in
theorem k_X12_hole (l : Launch) (D : va_G) (κ : Nat → ClassId) (β : Nat) (a12 : Nat) (r12 : Nat → Nat) (v12_keptMany : Int32) (v12_done : Int32) (v12_sheets : Int32) (v12_holes : Int32) (v12_worms : Int32) (v12_laidMany : Int32) (v12_wanted : Int32) (v12_orderMany : Int32) (v12_firstOrder : Int32) (v12_lines : Int32) (v12_marks : Int32) (v12_dots : Int32) (v12_madeIn : Int32) (v12_bound : Int32) (v12_places : Int32) (v12_maps : Int32) (v12_tapeMany : Int32) (v12_stories : Int32) (v12_base : Int32) (v12_at : Int32) (v12_ends : Int32) (v12_fault : Int32) (v12_opened : Int32) (v12_bodies : Int32) (v12_ran : Int32) (v12_ownKind : Int32) (v12_ownNumber : Int32) (f12_sheetOf : Nat → Int32) (f12_placeOf : Nat → Int32) (sz : Nat) (p1 : Int32) (p2 : Int32) (i1 : Rg 0 40 v12_keptMany) (i2 : Rg 0 40 v12_done) (i3 : Rg 0 8 v12_sheets) (i4 : Rg 0 40 v12_holes) (i5 : Rg 0 40 v12_worms) (i6 : Rg 0 8 v12_laidMany) (i7 : Rg 0 8 v12_wanted) (i8 : Rg 0 20 v12_lines) (i9 : Rg 0 60 v12_marks) (i10 : Rg 0 40 v12_dots) (i11 : Rg 0 20 v12_places) (i12 : Rg 0 8 v12_maps) (i13 : Rg 0 120 v12_tapeMany) (i14 : Rg 0 6 v12_stories) (i15 : Rg 0 50 v12_bodies) (i16 : Rg 0 1000 v12_ran) (hf12_sheetOf : ∀ j : Nat, 0 ≤ (f12_sheetOf j).toInt ∧ (f12_sheetOf j).toInt ≤ 7) (hf12_placeOf : ∀ j : Nat, 0 ≤ (f12_placeOf j).toInt ∧ (f12_placeOf j).toInt ≤ 999) (i17 : v12_done.toInt ≤ v12_keptMany.toInt) : Met l yX12_hole wsX12_hole ({ frames := 2, cells := 0, slots := 0, locals := 46 } : Room) (PcK D κ β [O12 a12 r12 v12_keptMany v12_done v12_sheets v12_holes v12_worms v12_laidMany v12_wanted v12_orderMany v12_firstOrder v12_lines v12_marks v12_dots v12_madeIn v12_bound v12_places v12_maps v12_tapeMany v12_stories v12_base v12_at v12_ends v12_fault v12_opened v12_bodies v12_ran v12_ownKind v12_ownNumber, (cI κ (r12 8) 40 f12_sheetOf), (cI κ (r12 9) 40 f12_placeOf)] sz [.ref a12, .int p1, .int p2]) (QiK D (fun (r : Int32) (u : Int32 × (Nat → Int32) × (Nat → Int32)) => (0 ≤ u.1.toInt ∧ u.1.toInt ≤ 40) ∧ (∀ j : Nat, 0 ≤ (u.2.1 j).toInt ∧ (u.2.1 j).toInt ≤ 7) ∧ (∀ j : Nat, 0 ≤ (u.2.2 j).toInt ∧ (u.2.2 j).toInt ≤ 999) ∧ ((¬ (0 ≤ p1.toInt ∧ p1.toInt < v12_sheets.toInt ∧ 0 ≤ p2.toInt ∧ p2.toInt ≤ 999) ∧ r.toInt = -1 ∧ u.1.toInt = v12_holes.toInt) ∨ ((0 ≤ p1.toInt ∧ p1.toInt < v12_sheets.toInt ∧ 0 ≤ p2.toInt ∧ p2.toInt ≤ 999) ∧ v12_holes.toInt = 40 ∧ r.toInt = -3 ∧ u.1.toInt = v12_holes.toInt) ∨ ((0 ≤ p1.toInt ∧ p1.toInt < v12_sheets.toInt ∧ 0 ≤ p2.toInt ∧ p2.toInt ≤ 999) ∧ v12_holes.toInt < 40 ∧ r.toInt = v12_holes.toInt ∧ u.1.toInt = v12_holes.toInt + 1)) ∧ (u.2.1 = holeF p1 p2 v12_sheets v12_holes f12_sheetOf p1) ∧ (u.2.2 = holeF p1 p2 v12_sheets v12_holes f12_placeOf p2)) (fun (u : Int32 × (Nat → Int32) × (Nat → Int32)) => [O12 a12 r12 v12_keptMany v12_done v12_sheets u.1 v12_worms v12_laidMany v12_wanted v12_orderMany v12_firstOrder v12_lines v12_marks v12_dots v12_madeIn v12_bound v12_places v12_maps v12_tapeMany v12_stories v12_base v12_at v12_ends v12_fault v12_opened v12_bodies v12_ran v12_ownKind v12_ownNumber, (cI κ (r12 8) 40 u.2.1), (cI κ (r12 9) 40 u.2.2)]) [O12 a12 r12 v12_keptMany v12_done v12_sheets v12_holes v12_worms v12_laidMany v12_wanted v12_orderMany v12_firstOrder v12_lines v12_marks v12_dots v12_madeIn v12_bound v12_places v12_maps v12_tapeMany v12_stories v12_base v12_at v12_ends v12_fault v12_opened v12_bodies v12_ran v12_ownKind v12_ownNumber, (cI κ (r12 8) 40 f12_sheetOf), (cI κ (r12 9) 40 f12_placeOf)] sz) 0 0 (va_A [O12 a12 r12 v12_keptMany v12_done v12_sheets v12_holes v12_worms v12_laidMany v12_wanted v12_orderMany v12_firstOrder v12_lines v12_marks v12_dots v12_madeIn v12_bound v12_places v12_maps v12_tapeMany v12_stories v12_base v12_at v12_ends v12_fault v12_opened v12_bodies v12_ran v12_ownKind v12_ownNumber, (cI κ (r12 8) 40 f12_sheetOf), (cI κ (r12 9) 40 f12_placeOf)] sz) := by
  refine ofK_i (cc := cX12_hole) (maxL := 3) (own := RX12) (by decide) rfl rfl (Nat.le_of_ble_eq_true rfl) ?_
  intro p e s m args below meth c Q A ls hsz hx hb hml hts hown hK hA hAB hP hD hl ret
  have hS : va_S A s.heap s.heap [] := va_S.rf
  have hl : lv_has ls 3 [(0, .ref a12), (1, .int p1), (2, .int p2)] := hl
  have w0 := hts (.constantLong RX12 158 (999)) (List.mem_of_getElem? (i := 1) rfl)
  have w1 := hts (.fieldLink RX12 140 "OlderSkinModel" "holes" "I") (List.mem_of_getElem? (i := 2) rfl)
  have w2 := (fun w h => List.mem_cons_of_mem _ (List.mem_append_right _ h) : ∀ w ∈ u_ws RX12 TX12 63, w ∈ wsX12_hole)
  have w3 := hts (.fieldLink RX12 22 "OlderSkinModel" "sheetOf" "[I") (List.mem_of_getElem? (i := 3) rfl)
  have w4 := hts (.fieldLink RX12 25 "OlderSkinModel" "placeOf" "[I") (List.mem_of_getElem? (i := 4) rfl)
  have l0 : (0 : Int32).toInt = 0 := by decide
  have l1 : ((-1) : Int32).toInt = -1 := by decide
  have l2 : (0 : Int64).toInt = 0 := by decide
  have l3 : (999 : Int64).toInt = 999 := by decide
  have l4 : (40 : Int32).toInt = 40 := by decide
  have l5 : (1 : Int32).toInt = 1 := by decide
  have l6 : ((-3) : Int32).toInt = -3 := by decide
  have i3 : 0 ≤ v12_sheets.toInt ∧ v12_sheets.toInt ≤ 8 := i3
  have i4 : 0 ≤ v12_holes.toInt ∧ v12_holes.toInt ≤ 40 := i4
  refine lv_aload_n hx hb dX12_hole_0 rfl (lv_at hl 0 rfl) ?_
  refine lv_iload_n hx hb dX12_hole_1 rfl (lv_at hl 1 rfl) ?_
  refine kcm_i hA hAB hP hD hS [true, false, false] rfl (fun _ => rfl) (fun hPc hDc => va_runV (As := [.int p1]) (rest := []) ⟨hx, hb, hml, hown, hts⟩ (k_X12_isSheet l D κ β a12 r12 v12_keptMany v12_done v12_sheets v12_holes v12_worms v12_laidMany v12_wanted v12_orderMany v12_firstOrder v12_lines v12_marks v12_dots v12_madeIn v12_bound v12_places v12_maps v12_tapeMany v12_stories v12_base v12_at v12_ends v12_fault v12_opened v12_bodies v12_ran v12_ownKind v12_ownNumber s.heap.size p1 i1 i2 i3 i4 i5 i6 i7 i8 i9 i10 i11 i12 i13 i14 i15 i16 i17) (cwV 1 hts gX12_hole_X12_isSheet rfl rfl rfl (by decide +kernel) ⟨Nat.le_of_ble_eq_true rfl, Nat.le_of_ble_eq_true rfl⟩) (pk_V hK hS hAB hPc hDc 0 (ci := 12) rfl rfl rfl) rfl rfl hl.1 rfl (lv_room (Nat.le_of_ble_eq_true rfl)) dX12_hole_2 ⟨Nat.le_of_ble_eq_true rfl, Nat.le_of_ble_eq_true rfl⟩) (fun x1 u2 H locs hw hPD hS => ?_)
  have h3 : (x1.toInt = 1 ∧ 0 ≤ p1.toInt ∧ p1.toInt < v12_sheets.toInt) ∨ (x1.toInt = 0 ∧ (p1.toInt < 0 ∨ v12_sheets.toInt ≤ p1.toInt)) := hw
  obtain ⟨hP, hD⟩ : PD D A [O12 a12 r12 v12_keptMany v12_done v12_sheets v12_holes v12_worms v12_laidMany v12_wanted v12_orderMany v12_firstOrder v12_lines v12_marks v12_dots v12_madeIn v12_bound v12_places v12_maps v12_tapeMany v12_stories v12_base v12_at v12_ends v12_fault v12_opened v12_bodies v12_ran v12_ownKind v12_ownNumber, (cI κ (r12 8) 40 f12_sheetOf), (cI κ (r12 9) 40 f12_placeOf)] H := hPD
  refine lv_if_eq (tgt := 20) hx hb dX12_hole_5 (by decide) (fun c4 => ?_) (fun c4 => ?_)
  · have c4 := ci_eq c4
    refine lv_iconst (v := (-1)) hx hb dX12_hole_20 (by decide) ?_
    have hpo : (0 ≤ v12_holes.toInt ∧ v12_holes.toInt ≤ 40) ∧ (∀ j : Nat, 0 ≤ (f12_sheetOf j).toInt ∧ (f12_sheetOf j).toInt ≤ 7) ∧ (∀ j : Nat, 0 ≤ (f12_placeOf j).toInt ∧ (f12_placeOf j).toInt ≤ 999) ∧ ((¬ (0 ≤ p1.toInt ∧ p1.toInt < v12_sheets.toInt ∧ 0 ≤ p2.toInt ∧ p2.toInt ≤ 999) ∧ ((-1) : Int32).toInt = -1 ∧ v12_holes.toInt = v12_holes.toInt) ∨ ((0 ≤ p1.toInt ∧ p1.toInt < v12_sheets.toInt ∧ 0 ≤ p2.toInt ∧ p2.toInt ≤ 999) ∧ v12_holes.toInt = 40 ∧ ((-1) : Int32).toInt = -3 ∧ v12_holes.toInt = v12_holes.toInt) ∨ ((0 ≤ p1.toInt ∧ p1.toInt < v12_sheets.toInt ∧ 0 ≤ p2.toInt ∧ p2.toInt ≤ 999) ∧ v12_holes.toInt < 40 ∧ ((-1) : Int32).toInt = v12_holes.toInt ∧ v12_holes.toInt = v12_holes.toInt + 1)) ∧ (f12_sheetOf = holeF p1 p2 v12_sheets v12_holes f12_sheetOf p1) ∧ (f12_placeOf = holeF p1 p2 v12_sheets v12_holes f12_placeOf p2) := ⟨i4, hf12_sheetOf, hf12_placeOf, (by omega), (by first | (rw [holeF_ok (by omega), addF_ok (by omega)]; assumption) | exact ((holeF_ok (by omega)).trans (addF_no (by omega))).symm | exact (holeF_no (by omega)).symm), (by first | (rw [holeF_ok (by omega), addF_ok (by omega)]; assumption) | exact ((holeF_ok (by omega)).trans (addF_no (by omega))).symm | exact (holeF_no (by omega)).symm)⟩
    exact ret _ _ _ _ (-1) (v12_holes, f12_sheetOf, f12_placeOf) dX12_hole_21 hpo hP hD hS
  have c4 := ci_ne c4
  refine lv_iload_n hx hb dX12_hole_8 rfl (lv_at hl 2 rfl) ?_
  refine lv_i2l hx hb dX12_hole_9 rfl ?_
  refine lv_topl (fun x5 e6 => ?_)
  have h7 : x5.toInt = p2.toInt := cl_i2l e6
  refine lv_lconst (v := (0 : Int64)) hx hb dX12_hole_10 (by decide) ?_
  refine lv_ldc2 (v := (999 : Int64)) hx hb hown w0 dX12_hole_11 ?_
  refine kcm_i hA hAB hP hD hS [false, false, false] rfl (fun _ => rfl) (fun hPc hDc => va_runS (As := [.long x5, .long (0 : Int64), .long (999 : Int64)]) (rest := []) ⟨hx, hb, hml, hown, hts⟩ (k_X12_within l D κ β H.size x5 (0 : Int64) (999 : Int64)) (va_cwS 3 hts gX12_hole_X12_within rfl rfl rfl (by decide +kernel) ⟨Nat.le_of_ble_eq_true rfl, Nat.le_of_ble_eq_true rfl⟩) (pk_S hK hS hAB hPc hDc) rfl rfl hl.1 rfl (lv_room (Nat.le_of_ble_eq_true rfl)) dX12_hole_14 ⟨Nat.le_of_ble_eq_true rfl, Nat.le_of_ble_eq_true rfl⟩) (fun x8 u9 H locs hw hPD hS => ?_)
  have h10 : (x8.toInt = 1 ∧ (0 : Int64).toInt ≤ x5.toInt ∧ x5.toInt ≤ (999 : Int64).toInt) ∨ (x8.toInt = 0 ∧ (x5.toInt < (0 : Int64).toInt ∨ (999 : Int64).toInt < x5.toInt)) := hw
  obtain ⟨hP, hD⟩ : PD D A [O12 a12 r12 v12_keptMany v12_done v12_sheets v12_holes v12_worms v12_laidMany v12_wanted v12_orderMany v12_firstOrder v12_lines v12_marks v12_dots v12_madeIn v12_bound v12_places v12_maps v12_tapeMany v12_stories v12_base v12_at v12_ends v12_fault v12_opened v12_bodies v12_ran v12_ownKind v12_ownNumber, (cI κ (r12 8) 40 f12_sheetOf), (cI κ (r12 9) 40 f12_placeOf)] H := hPD
  refine lv_if_ne (tgt := 22) hx hb dX12_hole_17 (by decide) (fun c11 => ?_) (fun c11 => ?_)
  · have c11 := ci_ne c11
    refine lv_aload_n hx hb dX12_hole_22 rfl (lv_at hl 0 rfl) ?_
    refine va_get (D := D) (ci := 12) (v := .int v12_holes) (C := RX12) (T := TX12) (N := 63) hx hb hts w2 hown hK.1 hP 0 rfl rfl 7 (by decide) w1 (fun _ h9 => h9) rfl dX12_hole_23 ?_
    refine lv_bipush (v := 40) hx hb dX12_hole_26 (by decide) ?_
    refine lv_icmp_ne (tgt := 34) hx hb dX12_hole_28 (by decide) (fun c12 => ?_) (fun c12 => ?_)
    · have c12 := ci_ne c12
      refine lv_aload_n hx hb dX12_hole_34 rfl (lv_at hl 0 rfl) ?_
      refine va_get (D := D) (ci := 12) (v := .ref (r12 8)) (C := RX12) (T := TX12) (N := 63) hx hb hts w2 hown hK.1 hP 0 rfl rfl 8 (by decide) w3 (fun _ h9 => h9) rfl dX12_hole_35 ?_
      refine lv_aload_n hx hb dX12_hole_38 rfl (lv_at hl 0 rfl) ?_
      refine va_get (D := D) (ci := 12) (v := .int v12_holes) (C := RX12) (T := TX12) (N := 63) hx hb hts w2 hown hK.1 hP 0 rfl rfl 7 (by decide) w1 (fun _ h9 => h9) rfl dX12_hole_39 ?_
      refine lv_iload_n hx hb dX12_hole_42 rfl (lv_at hl 1 rfl) ?_
      refine va_iast hx hb hK.1 hP hD hS 1 1 rfl rfl (i := v12_holes) (ix (by omega) (by omega)) dX12_hole_43 (fun H locs hP hD hS => ?_)
      obtain ⟨g13, e14⟩ : ∃ y : Nat → Int32, y = upd f12_sheetOf v12_holes.toNatClampNeg p1 := ⟨_, rfl⟩
      rw [← e14] at hP hD
      obtain ⟨hP, hD⟩ : PD D A [O12 a12 r12 v12_keptMany v12_done v12_sheets v12_holes v12_worms v12_laidMany v12_wanted v12_orderMany v12_firstOrder v12_lines v12_marks v12_dots v12_madeIn v12_bound v12_places v12_maps v12_tapeMany v12_stories v12_base v12_at v12_ends v12_fault v12_opened v12_bodies v12_ran v12_ownKind v12_ownNumber, (cI κ (r12 8) 40 g13), (cI κ (r12 9) 40 f12_placeOf)] H := ⟨hP, hD⟩
      have h15 : ∀ j : Nat, 0 ≤ (g13 j).toInt ∧ (g13 j).toInt ≤ 7 := by rw [e14]; exact all_upd (P := fun z => 0 ≤ z.toInt ∧ z.toInt ≤ 7) hf12_sheetOf (by omega)
      refine lv_aload_n hx hb dX12_hole_44 rfl (lv_at hl 0 rfl) ?_
      refine va_get (D := D) (ci := 12) (v := .ref (r12 9)) (C := RX12) (T := TX12) (N := 63) hx hb hts w2 hown hK.1 hP 0 rfl rfl 9 (by decide) w4 (fun _ h9 => h9) rfl dX12_hole_45 ?_
      refine lv_aload_n hx hb dX12_hole_48 rfl (lv_at hl 0 rfl) ?_
      refine va_get (D := D) (ci := 12) (v := .int v12_holes) (C := RX12) (T := TX12) (N := 63) hx hb hts w2 hown hK.1 hP 0 rfl rfl 7 (by decide) w1 (fun _ h9 => h9) rfl dX12_hole_49 ?_
      refine lv_iload_n hx hb dX12_hole_52 rfl (lv_at hl 2 rfl) ?_
      refine va_iast hx hb hK.1 hP hD hS 2 1 rfl rfl (i := v12_holes) (ix (by omega) (by omega)) dX12_hole_53 (fun H locs hP hD hS => ?_)
      obtain ⟨g16, e17⟩ : ∃ y : Nat → Int32, y = upd f12_placeOf v12_holes.toNatClampNeg p2 := ⟨_, rfl⟩
      rw [← e17] at hP hD
      obtain ⟨hP, hD⟩ : PD D A [O12 a12 r12 v12_keptMany v12_done v12_sheets v12_holes v12_worms v12_laidMany v12_wanted v12_orderMany v12_firstOrder v12_lines v12_marks v12_dots v12_madeIn v12_bound v12_places v12_maps v12_tapeMany v12_stories v12_base v12_at v12_ends v12_fault v12_opened v12_bodies v12_ran v12_ownKind v12_ownNumber, (cI κ (r12 8) 40 g13), (cI κ (r12 9) 40 g16)] H := ⟨hP, hD⟩
      have h18 : ∀ j : Nat, 0 ≤ (g16 j).toInt ∧ (g16 j).toInt ≤ 999 := by rw [e17]; exact all_upd (P := fun z => 0 ≤ z.toInt ∧ z.toInt ≤ 999) hf12_placeOf (by omega)
      refine lv_aload_n hx hb dX12_hole_54 rfl (lv_at hl 0 rfl) ?_
      refine lv_dup hx hb dX12_hole_55 rfl ?_
      refine va_get (D := D) (ci := 12) (v := .int v12_holes) (C := RX12) (T := TX12) (N := 63) hx hb hts w2 hown hK.1 hP 0 rfl rfl 7 (by decide) w1 (fun _ h9 => h9) rfl dX12_hole_56 ?_
      refine lv_iconst (v := 1) hx hb dX12_hole_59 (by decide) ?_
      refine lv_iadd hx hb dX12_hole_60 ?_
      refine lv_topi (fun x19 e20 => ?_)
      try have h21 : x19.toInt = v12_holes.toInt + (1 : Int32).toInt := ci_add e20 (by omega) (by omega)
      refine va_put (D := D) (ci := 12) (v := .int x19) (ty := .int) (C := RX12) (T := TX12) (N := 63) hx hb hts w2 tyX12 tyX12_ok nmX12 hown hK.1 hP hD hS 0 rfl rfl 7 (by decide) w1 (fun _ h9 => h9) rfl (by decide +kernel) rfl rfl (Nat.le_of_ble_eq_true rfl) dX12_hole_61 (fun H locs hP hD hS => ?_)
      obtain ⟨hP, hD⟩ : PD D A [O12 a12 r12 v12_keptMany v12_done v12_sheets x19 v12_worms v12_laidMany v12_wanted v12_orderMany v12_firstOrder v12_lines v12_marks v12_dots v12_madeIn v12_bound v12_places v12_maps v12_tapeMany v12_stories v12_base v12_at v12_ends v12_fault v12_opened v12_bodies v12_ran v12_ownKind v12_ownNumber, (cI κ (r12 8) 40 g13), (cI κ (r12 9) 40 g16)] H := ⟨hP, hD⟩
      have h22 : 0 ≤ x19.toInt ∧ x19.toInt ≤ 40 := by omega
      refine lv_aload_n hx hb dX12_hole_64 rfl (lv_at hl 0 rfl) ?_
      refine va_get (D := D) (ci := 12) (v := .int x19) (C := RX12) (T := TX12) (N := 63) hx hb hts w2 hown hK.1 hP 0 rfl rfl 7 (by decide) w1 (fun _ h9 => h9) rfl dX12_hole_65 ?_
      refine lv_iconst (v := 1) hx hb dX12_hole_68 (by decide) ?_
      refine lv_isub hx hb dX12_hole_69 ?_
      refine lv_topi (fun x23 e24 => ?_)
      try have h25 : x23.toInt = x19.toInt - (1 : Int32).toInt := ci_sub e24 (by omega) (by omega)
      have hpo : (0 ≤ x19.toInt ∧ x19.toInt ≤ 40) ∧ (∀ j : Nat, 0 ≤ (g13 j).toInt ∧ (g13 j).toInt ≤ 7) ∧ (∀ j : Nat, 0 ≤ (g16 j).toInt ∧ (g16 j).toInt ≤ 999) ∧ ((¬ (0 ≤ p1.toInt ∧ p1.toInt < v12_sheets.toInt ∧ 0 ≤ p2.toInt ∧ p2.toInt ≤ 999) ∧ x23.toInt = -1 ∧ x19.toInt = v12_holes.toInt) ∨ ((0 ≤ p1.toInt ∧ p1.toInt < v12_sheets.toInt ∧ 0 ≤ p2.toInt ∧ p2.toInt ≤ 999) ∧ v12_holes.toInt = 40 ∧ x23.toInt = -3 ∧ x19.toInt = v12_holes.toInt) ∨ ((0 ≤ p1.toInt ∧ p1.toInt < v12_sheets.toInt ∧ 0 ≤ p2.toInt ∧ p2.toInt ≤ 999) ∧ v12_holes.toInt < 40 ∧ x23.toInt = v12_holes.toInt ∧ x19.toInt = v12_holes.toInt + 1)) ∧ (g13 = holeF p1 p2 v12_sheets v12_holes f12_sheetOf p1) ∧ (g16 = holeF p1 p2 v12_sheets v12_holes f12_placeOf p2) := ⟨h22, h15, h18, (by omega), (by first | (rw [holeF_ok (by omega), addF_ok (by omega)]; assumption) | exact ((holeF_ok (by omega)).trans (addF_no (by omega))).symm | exact (holeF_no (by omega)).symm), (by first | (rw [holeF_ok (by omega), addF_ok (by omega)]; assumption) | exact ((holeF_ok (by omega)).trans (addF_no (by omega))).symm | exact (holeF_no (by omega)).symm)⟩
      exact ret _ _ _ _ x23 (x19, g13, g16) dX12_hole_70 hpo hP hD hS
    have c12 := ci_eq c12
    refine lv_bipush (v := (-3)) hx hb dX12_hole_31 (by decide) ?_
    have hpo : (0 ≤ v12_holes.toInt ∧ v12_holes.toInt ≤ 40) ∧ (∀ j : Nat, 0 ≤ (f12_sheetOf j).toInt ∧ (f12_sheetOf j).toInt ≤ 7) ∧ (∀ j : Nat, 0 ≤ (f12_placeOf j).toInt ∧ (f12_placeOf j).toInt ≤ 999) ∧ ((¬ (0 ≤ p1.toInt ∧ p1.toInt < v12_sheets.toInt ∧ 0 ≤ p2.toInt ∧ p2.toInt ≤ 999) ∧ ((-3) : Int32).toInt = -1 ∧ v12_holes.toInt = v12_holes.toInt) ∨ ((0 ≤ p1.toInt ∧ p1.toInt < v12_sheets.toInt ∧ 0 ≤ p2.toInt ∧ p2.toInt ≤ 999) ∧ v12_holes.toInt = 40 ∧ ((-3) : Int32).toInt = -3 ∧ v12_holes.toInt = v12_holes.toInt) ∨ ((0 ≤ p1.toInt ∧ p1.toInt < v12_sheets.toInt ∧ 0 ≤ p2.toInt ∧ p2.toInt ≤ 999) ∧ v12_holes.toInt < 40 ∧ ((-3) : Int32).toInt = v12_holes.toInt ∧ v12_holes.toInt = v12_holes.toInt + 1)) ∧ (f12_sheetOf = holeF p1 p2 v12_sheets v12_holes f12_sheetOf p1) ∧ (f12_placeOf = holeF p1 p2 v12_sheets v12_holes f12_placeOf p2) := ⟨i4, hf12_sheetOf, hf12_placeOf, (by omega), (by first | (rw [holeF_ok (by omega), addF_ok (by omega)]; assumption) | exact ((holeF_ok (by omega)).trans (addF_no (by omega))).symm | exact (holeF_no (by omega)).symm), (by first | (rw [holeF_ok (by omega), addF_ok (by omega)]; assumption) | exact ((holeF_ok (by omega)).trans (addF_no (by omega))).symm | exact (holeF_no (by omega)).symm)⟩
    exact ret _ _ _ _ (-3) (v12_holes, f12_sheetOf, f12_placeOf) dX12_hole_33 hpo hP hD hS
  have c11 := ci_eq c11
  refine lv_iconst (v := (-1)) hx hb dX12_hole_20 (by decide) ?_
  have hpo : (0 ≤ v12_holes.toInt ∧ v12_holes.toInt ≤ 40) ∧ (∀ j : Nat, 0 ≤ (f12_sheetOf j).toInt ∧ (f12_sheetOf j).toInt ≤ 7) ∧ (∀ j : Nat, 0 ≤ (f12_placeOf j).toInt ∧ (f12_placeOf j).toInt ≤ 999) ∧ ((¬ (0 ≤ p1.toInt ∧ p1.toInt < v12_sheets.toInt ∧ 0 ≤ p2.toInt ∧ p2.toInt ≤ 999) ∧ ((-1) : Int32).toInt = -1 ∧ v12_holes.toInt = v12_holes.toInt) ∨ ((0 ≤ p1.toInt ∧ p1.toInt < v12_sheets.toInt ∧ 0 ≤ p2.toInt ∧ p2.toInt ≤ 999) ∧ v12_holes.toInt = 40 ∧ ((-1) : Int32).toInt = -3 ∧ v12_holes.toInt = v12_holes.toInt) ∨ ((0 ≤ p1.toInt ∧ p1.toInt < v12_sheets.toInt ∧ 0 ≤ p2.toInt ∧ p2.toInt ≤ 999) ∧ v12_holes.toInt < 40 ∧ ((-1) : Int32).toInt = v12_holes.toInt ∧ v12_holes.toInt = v12_holes.toInt + 1)) ∧ (f12_sheetOf = holeF p1 p2 v12_sheets v12_holes f12_sheetOf p1) ∧ (f12_placeOf = holeF p1 p2 v12_sheets v12_holes f12_placeOf p2) := ⟨i4, hf12_sheetOf, hf12_placeOf, (by omega), (by first | (rw [holeF_ok (by omega), addF_ok (by omega)]; assumption) | exact ((holeF_ok (by omega)).trans (addF_no (by omega))).symm | exact (holeF_no (by omega)).symm), (by first | (rw [holeF_ok (by omega), addF_ok (by omega)]; assumption) | exact ((holeF_ok (by omega)).trans (addF_no (by omega))).symm | exact (holeF_no (by omega)).symm)⟩
  exact ret _ _ _ _ (-1) (v12_holes, f12_sheetOf, f12_placeOf) dX12_hole_21 hpo hP hD hS
set_option maxHeartbeats 4000000 in
set_option maxRecDepth 100000 in
theorem k_X12_findWorms (l : Launch) (D : va_G) (κ : Nat → ClassId) (β : Nat) (a12 : Nat) (r12 : Nat → Nat) (v12_keptMany : Int32) (v12_done : Int32) (v12_sheets : Int32) (v12_holes : Int32) (v12_worms : Int32) (v12_laidMany : Int32) (v12_wanted : Int32) (v12_orderMany : Int32) (v12_firstOrder : Int32) (v12_lines : Int32) (v12_marks : Int32) (v12_dots : Int32) (v12_madeIn : Int32) (v12_bound : Int32) (v12_places : Int32) (v12_maps : Int32) (v12_tapeMany : Int32) (v12_stories : Int32) (v12_base : Int32) (v12_at : Int32) (v12_ends : Int32) (v12_fault : Int32) (v12_opened : Int32) (v12_bodies : Int32) (v12_ran : Int32) (v12_ownKind : Int32) (v12_ownNumber : Int32) (f12_sheetOf : Nat → Int32) (f12_placeOf : Nat → Int32) (f12_sorted : Nat → Int32) (f12_wormOf : Nat → Int32) (f12_wormSheets : Nat → Int32) (sz : Nat) (p1 : Int32) (p2 : Int32) (i1 : Rg 0 40 v12_keptMany) (i2 : Rg 0 40 v12_done) (i3 : Rg 0 8 v12_sheets) (i4 : Rg 0 40 v12_holes) (i5 : Rg 0 40 v12_worms) (i6 : Rg 0 8 v12_laidMany) (i7 : Rg 0 8 v12_wanted) (i8 : Rg 0 20 v12_lines) (i9 : Rg 0 60 v12_marks) (i10 : Rg 0 40 v12_dots) (i11 : Rg 0 20 v12_places) (i12 : Rg 0 8 v12_maps) (i13 : Rg 0 120 v12_tapeMany) (i14 : Rg 0 6 v12_stories) (i15 : Rg 0 50 v12_bodies) (i16 : Rg 0 1000 v12_ran) (hf12_sheetOf : ∀ j : Nat, 0 ≤ (f12_sheetOf j).toInt ∧ (f12_sheetOf j).toInt ≤ 7) (hf12_placeOf : ∀ j : Nat, 0 ≤ (f12_placeOf j).toInt ∧ (f12_placeOf j).toInt ≤ 999) (hf12_sorted : ∀ j : Nat, 0 ≤ (f12_sorted j).toInt ∧ (f12_sorted j).toInt ≤ 39) (i17 : v12_done.toInt ≤ v12_keptMany.toInt) : Met l yX12_findWorms wsX12_findWorms ({ frames := 0, cells := 0, slots := 0, locals := 0 } : Room) (PcK D κ β [O12 a12 r12 v12_keptMany v12_done v12_sheets v12_holes v12_worms v12_laidMany v12_wanted v12_orderMany v12_firstOrder v12_lines v12_marks v12_dots v12_madeIn v12_bound v12_places v12_maps v12_tapeMany v12_stories v12_base v12_at v12_ends v12_fault v12_opened v12_bodies v12_ran v12_ownKind v12_ownNumber, (cI κ (r12 8) 40 f12_sheetOf), (cI κ (r12 9) 40 f12_placeOf), (cI κ (r12 10) 40 f12_sorted), (cI κ (r12 11) 40 f12_wormOf), (cI κ (r12 12) 40 f12_wormSheets)] sz [.ref a12, .int p1, .int p2]) (QvK D (fun (u : Int32 × (Nat → Int32) × (Nat → Int32) × (Nat → Int32)) => (0 ≤ u.1.toInt ∧ u.1.toInt ≤ 40) ∧ (∀ j : Nat, 0 ≤ (u.2.1 j).toInt ∧ (u.2.1 j).toInt ≤ 39)) (fun (u : Int32 × (Nat → Int32) × (Nat → Int32) × (Nat → Int32)) => [O12 a12 r12 v12_keptMany v12_done v12_sheets v12_holes u.1 v12_laidMany v12_wanted v12_orderMany v12_firstOrder v12_lines v12_marks v12_dots v12_madeIn v12_bound v12_places v12_maps v12_tapeMany v12_stories v12_base v12_at v12_ends v12_fault v12_opened v12_bodies v12_ran v12_ownKind v12_ownNumber, (cI κ (r12 8) 40 f12_sheetOf), (cI κ (r12 9) 40 f12_placeOf), (cI κ (r12 10) 40 u.2.1), (cI κ (r12 11) 40 u.2.2.1), (cI κ (r12 12) 40 u.2.2.2)]) [O12 a12 r12 v12_keptMany v12_done v12_sheets v12_holes v12_worms v12_laidMany v12_wanted v12_orderMany v12_firstOrder v12_lines v12_marks v12_dots v12_madeIn v12_bound v12_places v12_maps v12_tapeMany v12_stories v12_base v12_at v12_ends v12_fault v12_opened v12_bodies v12_ran v12_ownKind v12_ownNumber, (cI κ (r12 8) 40 f12_sheetOf), (cI κ (r12 9) 40 f12_placeOf), (cI κ (r12 10) 40 f12_sorted), (cI κ (r12 11) 40 f12_wormOf), (cI κ (r12 12) 40 f12_wormSheets)] sz) 0 0 (va_A [O12 a12 r12 v12_keptMany v12_done v12_sheets v12_holes v12_worms v12_laidMany v12_wanted v12_orderMany v12_firstOrder v12_lines v12_marks v12_dots v12_madeIn v12_bound v12_places v12_maps v12_tapeMany v12_stories v12_base v12_at v12_ends v12_fault v12_opened v12_bodies v12_ran v12_ownKind v12_ownNumber, (cI κ (r12 8) 40 f12_sheetOf), (cI κ (r12 9) 40 f12_placeOf), (cI κ (r12 10) 40 f12_sorted), (cI κ (r12 11) 40 f12_wormOf), (cI κ (r12 12) 40 f12_wormSheets)] sz) := by
  refine ofK_v (cc := cX12_findWorms) (maxL := 8) (own := RX12) (by decide) rfl rfl (Nat.le_of_ble_eq_true rfl) ?_
  intro p e s m args below meth c Q A ls hsz hx hb hml hts hown hK hA hAB hP hD hl hname ret
  have hS : va_S A s.heap s.heap [] := va_S.rf
  have hl : lv_has ls 8 [(0, .ref a12), (1, .int p1), (2, .int p2)] := hl
  have w0 := hts (.fieldLink RX12 140 "OlderSkinModel" "holes" "I") (List.mem_of_getElem? (i := 1) rfl)
  have w1 := (fun w h => List.mem_cons_of_mem _ (List.mem_append_right _ h) : ∀ w ∈ u_ws RX12 TX12 63, w ∈ wsX12_findWorms)
  have w2 := hts (.fieldLink RX12 160 "OlderSkinModel" "worms" "I") (List.mem_of_getElem? (i := 6) rfl)
  have w3 := hts (.fieldLink RX12 28 "OlderSkinModel" "sorted" "[I") (List.mem_of_getElem? (i := 5) rfl)
  have w4 := hts (.fieldLink RX12 22 "OlderSkinModel" "sheetOf" "[I") (List.mem_of_getElem? (i := 3) rfl)
  have w5 := hts (.fieldLink RX12 34 "OlderSkinModel" "wormSheets" "[I") (List.mem_of_getElem? (i := 7) rfl)
  have w6 := hts (.fieldLink RX12 31 "OlderSkinModel" "wormOf" "[I") (List.mem_of_getElem? (i := 2) rfl)
  have w7 := hts (.fieldLink RX12 25 "OlderSkinModel" "placeOf" "[I") (List.mem_of_getElem? (i := 4) rfl)
  have l0 : (0 : Int32).toInt = 0 := by decide
  have l1 : (1 : Int32).toInt = 1 := by decide
  have l2 : ((-1) : Int32).toInt = -1 := by decide
  have i4 : 0 ≤ v12_holes.toInt ∧ v12_holes.toInt ≤ 40 := i4
  have i5 : 0 ≤ v12_worms.toInt ∧ v12_worms.toInt ≤ 40 := i5
  refine lv_iconst (v := 0) hx hb dX12_findWorms_0 (by decide) ?_
  refine lv_istore_n (lv' := [(3, .int 0), (0, .ref a12), (1, .int p1), (2, .int p2)]) hx hb dX12_findWorms_1 rfl hl (by decide) rfl (fun ls hl => ?_)
  refine lv_iconst (v := 0) hx hb dX12_findWorms_2 (by decide) ?_
  refine lv_istore (lv' := [(4, .int 0), (3, .int 0), (0, .ref a12), (1, .int p1), (2, .int p2)]) hx hb dX12_findWorms_3 hl (by decide) rfl (fun ls hl => ?_)
  have lp5 : ∀ (n5 : Nat) (k1 : Int32) (k2 : Int32) (g3 : Nat → Int32) (g5 : Nat → Int32), (∀ j : Nat, 0 ≤ (g3 j).toInt ∧ (g3 j).toInt ≤ 39) → (0 ≤ k2.toInt ∧ k2.toInt ≤ k1.toInt) → (k1.toInt ≤ v12_holes.toInt) → (0 ≤ k1.toInt) → (v12_holes.toInt - k1.toInt).toNat < n5 → ∀ (H : Heap) (locs : List Loc), va_P D vwCl [O12 a12 r12 v12_keptMany v12_done v12_sheets v12_holes v12_worms v12_laidMany v12_wanted v12_orderMany v12_firstOrder v12_lines v12_marks v12_dots v12_madeIn v12_bound v12_places v12_maps v12_tapeMany v12_stories v12_base v12_at v12_ends v12_fault v12_opened v12_bodies v12_ran v12_ownKind v12_ownNumber, (cI κ (r12 8) 40 f12_sheetOf), (cI κ (r12 9) 40 f12_placeOf), (cI κ (r12 10) 40 g3), (cI κ (r12 11) 40 g5), (cI κ (r12 12) 40 f12_wormSheets)] H → va_D A [O12 a12 r12 v12_keptMany v12_done v12_sheets v12_holes v12_worms v12_laidMany v12_wanted v12_orderMany v12_firstOrder v12_lines v12_marks v12_dots v12_madeIn v12_bound v12_places v12_maps v12_tapeMany v12_stories v12_base v12_at v12_ends v12_fault v12_opened v12_bodies v12_ran v12_ownKind v12_ownNumber, (cI κ (r12 8) 40 f12_sheetOf), (cI κ (r12 9) 40 f12_placeOf), (cI κ (r12 10) 40 g3), (cI κ (r12 11) 40 g5), (cI κ (r12 12) 40 f12_wormSheets)] → va_S A s.heap H locs → ∀ ls : Array Slot, lv_has ls 8 [(4, .int k1), (3, .int k2), (0, .ref a12), (1, .int p1), (2, .int p2)] → W p l e ({ frames := 0, cells := 0, slots := 0, locals := 0 } : Room) s m args below meth c H locs 0 0 Q (F0 m 5 ls []) := by
    intro n5
    induction n5 with
    | zero =>
      intro k1 k2 g3 g5 h4 h6 h7 h8 m9
      exact absurd m9 (Nat.not_lt_zero _)
    | succ n5 ih5 =>
      intro k1 k2 g3 g5 h4 h6 h7 h8 m9 H locs hP hD hS ls hl
      refine lv_iload hx hb dX12_findWorms_5 (lv_at hl 0 rfl) ?_
      refine lv_aload_n hx hb dX12_findWorms_7 rfl (lv_at hl 2 rfl) ?_
      refine va_get (D := D) (ci := 12) (v := .int v12_holes) (C := RX12) (T := TX12) (N := 63) hx hb hts w1 hown hK.1 hP 0 rfl rfl 7 (by decide) w0 (fun _ h9 => h9) rfl dX12_findWorms_8 ?_
      refine lv_icmp_ge (tgt := 105) hx hb dX12_findWorms_11 (by decide) (fun c10 => ?_) (fun c10 => ?_)
      · have c10 := ci_le c10
        refine lv_aload_n hx hb dX12_findWorms_105 rfl (lv_at hl 2 rfl) ?_
        refine lv_iconst (v := 0) hx hb dX12_findWorms_106 (by decide) ?_
        refine va_put (D := D) (ci := 12) (v := .int 0) (ty := .int) (C := RX12) (T := TX12) (N := 63) hx hb hts w1 tyX12 tyX12_ok nmX12 hown hK.1 hP hD hS 0 rfl rfl 13 (by decide) w2 (fun _ h9 => h9) rfl (by decide +kernel) rfl rfl (Nat.le_of_ble_eq_true rfl) dX12_findWorms_107 (fun H locs hP hD hS => ?_)
        obtain ⟨hP, hD⟩ : PD D A [O12 a12 r12 v12_keptMany v12_done v12_sheets v12_holes 0 v12_laidMany v12_wanted v12_orderMany v12_firstOrder v12_lines v12_marks v12_dots v12_madeIn v12_bound v12_places v12_maps v12_tapeMany v12_stories v12_base v12_at v12_ends v12_fault v12_opened v12_bodies v12_ran v12_ownKind v12_ownNumber, (cI κ (r12 8) 40 f12_sheetOf), (cI κ (r12 9) 40 f12_placeOf), (cI κ (r12 10) 40 g3), (cI κ (r12 11) 40 g5), (cI κ (r12 12) 40 f12_wormSheets)] H := ⟨hP, hD⟩
        have h11 : 0 ≤ (0 : Int32).toInt ∧ (0 : Int32).toInt ≤ 40 := by omega
        refine lv_iconst (v := 0) hx hb dX12_findWorms_110 (by decide) ?_
        refine lv_istore (lv' := [(4, .int 0), (3, .int k2), (0, .ref a12), (1, .int p1), (2, .int p2)]) hx hb dX12_findWorms_111 hl (by decide) rfl (fun ls hl => ?_)
        have lp113 : ∀ (n113 : Nat) (k12 : Int32) (v13 : Int32) (g14 : Nat → Int32) (g15 : Nat → Int32), (0 ≤ v13.toInt ∧ v13.toInt ≤ 40) → (v13.toInt ≤ k12.toInt) → (k12.toInt = 0 ∨ 1 ≤ v13.toInt) → (0 ≤ k12.toInt) → (k2.toInt - k12.toInt).toNat < n113 → ∀ (H : Heap) (locs : List Loc), va_P D vwCl [O12 a12 r12 v12_keptMany v12_done v12_sheets v12_holes v13 v12_laidMany v12_wanted v12_orderMany v12_firstOrder v12_lines v12_marks v12_dots v12_madeIn v12_bound v12_places v12_maps v12_tapeMany v12_stories v12_base v12_at v12_ends v12_fault v12_opened v12_bodies v12_ran v12_ownKind v12_ownNumber, (cI κ (r12 8) 40 f12_sheetOf), (cI κ (r12 9) 40 f12_placeOf), (cI κ (r12 10) 40 g3), (cI κ (r12 11) 40 g14), (cI κ (r12 12) 40 g15)] H → va_D A [O12 a12 r12 v12_keptMany v12_done v12_sheets v12_holes v13 v12_laidMany v12_wanted v12_orderMany v12_firstOrder v12_lines v12_marks v12_dots v12_madeIn v12_bound v12_places v12_maps v12_tapeMany v12_stories v12_base v12_at v12_ends v12_fault v12_opened v12_bodies v12_ran v12_ownKind v12_ownNumber, (cI κ (r12 8) 40 f12_sheetOf), (cI κ (r12 9) 40 f12_placeOf), (cI κ (r12 10) 40 g3), (cI κ (r12 11) 40 g14), (cI κ (r12 12) 40 g15)] → va_S A s.heap H locs → ∀ ls : Array Slot, lv_has ls 8 [(4, .int k12), (3, .int k2), (0, .ref a12), (1, .int p1), (2, .int p2)] → W p l e ({ frames := 0, cells := 0, slots := 0, locals := 0 } : Room) s m args below meth c H locs 0 0 Q (F0 m 113 ls []) := by
          intro n113
          induction n113 with
          | zero =>
            intro k12 v13 g14 g15 h16 h17 h18 h19 m20
            exact absurd m20 (Nat.not_lt_zero _)
          | succ n113 ih113 =>
            intro k12 v13 g14 g15 h16 h17 h18 h19 m20 H locs hP hD hS ls hl
            refine lv_iload hx hb dX12_findWorms_113 (lv_at hl 0 rfl) ?_
            refine lv_iload_n hx hb dX12_findWorms_115 rfl (lv_at hl 1 rfl) ?_
            refine lv_icmp_ge (tgt := 263) hx hb dX12_findWorms_116 (by decide) (fun c21 => ?_) (fun c21 => ?_)
            · have c21 := ci_le c21
              have hpo : (0 ≤ v13.toInt ∧ v13.toInt ≤ 40) ∧ (∀ j : Nat, 0 ≤ (g3 j).toInt ∧ (g3 j).toInt ≤ 39) := ⟨h16, h4⟩
              exact ret _ _ _ _ (v13, g3, g14, g15) dX12_findWorms_263 hpo hP hD hS
            have c21 := ci_nle c21
            refine lv_aload_n hx hb dX12_findWorms_119 rfl (lv_at hl 2 rfl) ?_
            refine va_get (D := D) (ci := 12) (v := .ref (r12 10)) (C := RX12) (T := TX12) (N := 63) hx hb hts w1 hown hK.1 hP 0 rfl rfl 10 (by decide) w3 (fun _ h9 => h9) rfl dX12_findWorms_120 ?_
            refine lv_iload hx hb dX12_findWorms_123 (lv_at hl 0 rfl) ?_
            refine va_iald hx hb hK.1 hP 3 1 rfl rfl (i := k12) (ix (by omega) (by omega)) dX12_findWorms_125 ?_
            refine lv_topi (fun x22 e23 => ?_)
            have h24 : 0 ≤ x22.toInt ∧ x22.toInt ≤ 39 := by rw [e23]; exact h4 _
            refine lv_istore (lv' := [(5, .int x22), (4, .int k12), (3, .int k2), (0, .ref a12), (1, .int p1), (2, .int p2)]) hx hb dX12_findWorms_126 hl (by decide) rfl (fun ls hl => ?_)
            refine lv_iconst (v := 1) hx hb dX12_findWorms_128 (by decide) ?_
            refine lv_aload_n hx hb dX12_findWorms_129 rfl (lv_at hl 3 rfl) ?_
            refine va_get (D := D) (ci := 12) (v := .ref (r12 8)) (C := RX12) (T := TX12) (N := 63) hx hb hts w1 hown hK.1 hP 0 rfl rfl 8 (by decide) w4 (fun _ h9 => h9) rfl dX12_findWorms_130 ?_
            refine lv_iload hx hb dX12_findWorms_133 (lv_at hl 0 rfl) ?_
            refine va_iald hx hb hK.1 hP 1 1 rfl rfl (i := x22) (ix (by omega) (by omega)) dX12_findWorms_135 ?_
            refine lv_topi (fun x25 e26 => ?_)
            have h27 : 0 ≤ x25.toInt ∧ x25.toInt ≤ 7 := by rw [e26]; exact hf12_sheetOf _
            refine lv_ishl hx hb dX12_findWorms_136 ?_
            refine lv_topi (fun x28 e29 => ?_)
            refine lv_istore (lv' := [(6, .int x28), (5, .int x22), (4, .int k12), (3, .int k2), (0, .ref a12), (1, .int p1), (2, .int p2)]) hx hb dX12_findWorms_137 hl (by decide) rfl (fun ls hl => ?_)
            refine lv_iload hx hb dX12_findWorms_139 (lv_at hl 2 rfl) ?_
            refine lv_if_le (tgt := 200) hx hb dX12_findWorms_141 (by decide) (fun c30 => ?_) (fun c30 => ?_)
            · have c30 := ci_le c30
              refine lv_iconst (v := 0) hx hb dX12_findWorms_200 (by decide) ?_
              refine lv_istore (lv' := [(7, .int 0), (6, .int x28), (5, .int x22), (4, .int k12), (3, .int k2), (0, .ref a12), (1, .int p1), (2, .int p2)]) hx hb dX12_findWorms_201 hl (by decide) rfl (fun ls hl => ?_)
              refine lv_iload hx hb dX12_findWorms_203 (lv_at hl 0 rfl) ?_
              refine lv_if_ne (tgt := 228) hx hb dX12_findWorms_205 (by decide) (fun c31 => ?_) (fun c31 => ?_)
              · have c31 := ci_ne c31
                exfalso
                omega
              have c31 := ci_eq c31
              refine lv_aload_n hx hb dX12_findWorms_208 rfl (lv_at hl 5 rfl) ?_
              refine va_get (D := D) (ci := 12) (v := .ref (r12 12)) (C := RX12) (T := TX12) (N := 63) hx hb hts w1 hown hK.1 hP 0 rfl rfl 12 (by decide) w5 (fun _ h9 => h9) rfl dX12_findWorms_209 ?_
              refine lv_aload_n hx hb dX12_findWorms_212 rfl (lv_at hl 5 rfl) ?_
              refine va_get (D := D) (ci := 12) (v := .int v13) (C := RX12) (T := TX12) (N := 63) hx hb hts w1 hown hK.1 hP 0 rfl rfl 13 (by decide) w2 (fun _ h9 => h9) rfl dX12_findWorms_213 ?_
              refine lv_iconst (v := 0) hx hb dX12_findWorms_216 (by decide) ?_
              refine va_iast hx hb hK.1 hP hD hS 5 1 rfl rfl (i := v13) (ix (by omega) (by omega)) dX12_findWorms_217 (fun H locs hP hD hS => ?_)
              obtain ⟨g32, e33⟩ : ∃ y : Nat → Int32, y = upd g15 v13.toNatClampNeg 0 := ⟨_, rfl⟩
              rw [← e33] at hP hD
              obtain ⟨hP, hD⟩ : PD D A [O12 a12 r12 v12_keptMany v12_done v12_sheets v12_holes v13 v12_laidMany v12_wanted v12_orderMany v12_firstOrder v12_lines v12_marks v12_dots v12_madeIn v12_bound v12_places v12_maps v12_tapeMany v12_stories v12_base v12_at v12_ends v12_fault v12_opened v12_bodies v12_ran v12_ownKind v12_ownNumber, (cI κ (r12 8) 40 f12_sheetOf), (cI κ (r12 9) 40 f12_placeOf), (cI κ (r12 10) 40 g3), (cI κ (r12 11) 40 g14), (cI κ (r12 12) 40 g32)] H := ⟨hP, hD⟩
              refine lv_aload_n hx hb dX12_findWorms_218 rfl (lv_at hl 5 rfl) ?_
              refine lv_dup hx hb dX12_findWorms_219 rfl ?_
              refine va_get (D := D) (ci := 12) (v := .int v13) (C := RX12) (T := TX12) (N := 63) hx hb hts w1 hown hK.1 hP 0 rfl rfl 13 (by decide) w2 (fun _ h9 => h9) rfl dX12_findWorms_220 ?_
              refine lv_iconst (v := 1) hx hb dX12_findWorms_223 (by decide) ?_
              refine lv_iadd hx hb dX12_findWorms_224 ?_
              refine lv_topi (fun x34 e35 => ?_)
              try have h36 : x34.toInt = v13.toInt + (1 : Int32).toInt := ci_add e35 (by omega) (by omega)
              refine va_put (D := D) (ci := 12) (v := .int x34) (ty := .int) (C := RX12) (T := TX12) (N := 63) hx hb hts w1 tyX12 tyX12_ok nmX12 hown hK.1 hP hD hS 0 rfl rfl 13 (by decide) w2 (fun _ h9 => h9) rfl (by decide +kernel) rfl rfl (Nat.le_of_ble_eq_true rfl) dX12_findWorms_225 (fun H locs hP hD hS => ?_)
              obtain ⟨hP, hD⟩ : PD D A [O12 a12 r12 v12_keptMany v12_done v12_sheets v12_holes x34 v12_laidMany v12_wanted v12_orderMany v12_firstOrder v12_lines v12_marks v12_dots v12_madeIn v12_bound v12_places v12_maps v12_tapeMany v12_stories v12_base v12_at v12_ends v12_fault v12_opened v12_bodies v12_ran v12_ownKind v12_ownNumber, (cI κ (r12 8) 40 f12_sheetOf), (cI κ (r12 9) 40 f12_placeOf), (cI κ (r12 10) 40 g3), (cI κ (r12 11) 40 g14), (cI κ (r12 12) 40 g32)] H := ⟨hP, hD⟩
              have h37 : 0 ≤ x34.toInt ∧ x34.toInt ≤ 40 := by omega
              refine lv_aload_n hx hb dX12_findWorms_228 rfl (lv_at hl 5 rfl) ?_
              refine va_get (D := D) (ci := 12) (v := .ref (r12 12)) (C := RX12) (T := TX12) (N := 63) hx hb hts w1 hown hK.1 hP 0 rfl rfl 12 (by decide) w5 (fun _ h9 => h9) rfl dX12_findWorms_229 ?_
              refine lv_aload_n hx hb dX12_findWorms_232 rfl (lv_at hl 5 rfl) ?_
              refine va_get (D := D) (ci := 12) (v := .int x34) (C := RX12) (T := TX12) (N := 63) hx hb hts w1 hown hK.1 hP 0 rfl rfl 13 (by decide) w2 (fun _ h9 => h9) rfl dX12_findWorms_233 ?_
              refine lv_iconst (v := 1) hx hb dX12_findWorms_236 (by decide) ?_
              refine lv_isub hx hb dX12_findWorms_237 ?_
              refine lv_topi (fun x38 e39 => ?_)
              try have h40 : x38.toInt = x34.toInt - (1 : Int32).toInt := ci_sub e39 (by omega) (by omega)
              refine lv_dup2_11 hx hb dX12_findWorms_238 rfl rfl ?_
              refine va_iald hx hb hK.1 hP 5 1 rfl rfl (i := x38) (ix (by omega) (by omega)) dX12_findWorms_239 ?_
              refine lv_topi (fun x41 e42 => ?_)
              refine lv_iload hx hb dX12_findWorms_240 (lv_at hl 1 rfl) ?_
              refine lv_ior hx hb dX12_findWorms_242 ?_
              refine lv_topi (fun x43 e44 => ?_)
              refine va_iast hx hb hK.1 hP hD hS 5 1 rfl rfl (i := x38) (ix (by omega) (by omega)) dX12_findWorms_243 (fun H locs hP hD hS => ?_)
              obtain ⟨g45, e46⟩ : ∃ y : Nat → Int32, y = upd g32 x38.toNatClampNeg x43 := ⟨_, rfl⟩
              rw [← e46] at hP hD
              obtain ⟨hP, hD⟩ : PD D A [O12 a12 r12 v12_keptMany v12_done v12_sheets v12_holes x34 v12_laidMany v12_wanted v12_orderMany v12_firstOrder v12_lines v12_marks v12_dots v12_madeIn v12_bound v12_places v12_maps v12_tapeMany v12_stories v12_base v12_at v12_ends v12_fault v12_opened v12_bodies v12_ran v12_ownKind v12_ownNumber, (cI κ (r12 8) 40 f12_sheetOf), (cI κ (r12 9) 40 f12_placeOf), (cI κ (r12 10) 40 g3), (cI κ (r12 11) 40 g14), (cI κ (r12 12) 40 g45)] H := ⟨hP, hD⟩
              refine lv_aload_n hx hb dX12_findWorms_244 rfl (lv_at hl 5 rfl) ?_
              refine va_get (D := D) (ci := 12) (v := .ref (r12 11)) (C := RX12) (T := TX12) (N := 63) hx hb hts w1 hown hK.1 hP 0 rfl rfl 11 (by decide) w6 (fun _ h9 => h9) rfl dX12_findWorms_245 ?_
              refine lv_iload hx hb dX12_findWorms_248 (lv_at hl 2 rfl) ?_
              refine lv_aload_n hx hb dX12_findWorms_250 rfl (lv_at hl 5 rfl) ?_
              refine va_get (D := D) (ci := 12) (v := .int x34) (C := RX12) (T := TX12) (N := 63) hx hb hts w1 hown hK.1 hP 0 rfl rfl 13 (by decide) w2 (fun _ h9 => h9) rfl dX12_findWorms_251 ?_
              refine lv_iconst (v := 1) hx hb dX12_findWorms_254 (by decide) ?_
              refine lv_isub hx hb dX12_findWorms_255 ?_
              refine lv_topi (fun x47 e48 => ?_)
              try have h49 : x47.toInt = x34.toInt - (1 : Int32).toInt := ci_sub e48 (by omega) (by omega)
              refine va_iast hx hb hK.1 hP hD hS 4 1 rfl rfl (i := x22) (ix (by omega) (by omega)) dX12_findWorms_256 (fun H locs hP hD hS => ?_)
              obtain ⟨g50, e51⟩ : ∃ y : Nat → Int32, y = upd g14 x22.toNatClampNeg x47 := ⟨_, rfl⟩
              rw [← e51] at hP hD
              obtain ⟨hP, hD⟩ : PD D A [O12 a12 r12 v12_keptMany v12_done v12_sheets v12_holes x34 v12_laidMany v12_wanted v12_orderMany v12_firstOrder v12_lines v12_marks v12_dots v12_madeIn v12_bound v12_places v12_maps v12_tapeMany v12_stories v12_base v12_at v12_ends v12_fault v12_opened v12_bodies v12_ran v12_ownKind v12_ownNumber, (cI κ (r12 8) 40 f12_sheetOf), (cI κ (r12 9) 40 f12_placeOf), (cI κ (r12 10) 40 g3), (cI κ (r12 11) 40 g50), (cI κ (r12 12) 40 g45)] H := ⟨hP, hD⟩
              obtain ⟨x52, e53⟩ : ∃ y : Int32, y = k12 + 1 := ⟨_, rfl⟩
              refine lv_iinc (v := x52) (lv' := [(4, .int x52), (7, .int 0), (6, .int x28), (5, .int x22), (3, .int k2), (0, .ref a12), (1, .int p1), (2, .int p2)]) hx hb dX12_findWorms_257 hl (k := 3) rfl (by rw [e53]; rfl) (by decide) rfl (fun ls hl => ?_)
              try have h54 : x52.toInt = k12.toInt + (1 : Int32).toInt := ci_add e53 (by omega) (by omega)
              refine lv_goto (tgt := 113) hx hb dX12_findWorms_260 (by decide) ?_
              exact ih113 x52 x34 g50 g45 h37 (by omega) (by omega) (by omega) (by omega) _ _ hP hD hS _ (lv_sub hl [0, 4, 5, 6, 7] rfl)
            have c30 := ci_nle c30
            refine lv_aload_n hx hb dX12_findWorms_144 rfl (lv_at hl 4 rfl) ?_
            refine va_get (D := D) (ci := 12) (v := .ref (r12 9)) (C := RX12) (T := TX12) (N := 63) hx hb hts w1 hown hK.1 hP 0 rfl rfl 9 (by decide) w7 (fun _ h9 => h9) rfl dX12_findWorms_145 ?_
            refine lv_iload hx hb dX12_findWorms_148 (lv_at hl 1 rfl) ?_
            refine va_iald hx hb hK.1 hP 2 1 rfl rfl (i := x22) (ix (by omega) (by omega)) dX12_findWorms_150 ?_
            refine lv_topi (fun x55 e56 => ?_)
            have h57 : 0 ≤ x55.toInt ∧ x55.toInt ≤ 999 := by rw [e56]; exact hf12_placeOf _
            refine lv_aload_n hx hb dX12_findWorms_151 rfl (lv_at hl 4 rfl) ?_
            refine va_get (D := D) (ci := 12) (v := .ref (r12 9)) (C := RX12) (T := TX12) (N := 63) hx hb hts w1 hown hK.1 hP 0 rfl rfl 9 (by decide) w7 (fun _ h9 => h9) rfl dX12_findWorms_152 ?_
            refine lv_aload_n hx hb dX12_findWorms_155 rfl (lv_at hl 4 rfl) ?_
            refine va_get (D := D) (ci := 12) (v := .ref (r12 10)) (C := RX12) (T := TX12) (N := 63) hx hb hts w1 hown hK.1 hP 0 rfl rfl 10 (by decide) w3 (fun _ h9 => h9) rfl dX12_findWorms_156 ?_
            refine lv_iload hx hb dX12_findWorms_159 (lv_at hl 2 rfl) ?_
            refine lv_if_le (tgt := 171) hx hb dX12_findWorms_161 (by decide) (fun c58 => ?_) (fun c58 => ?_)
            · have c58 := ci_le c58
              refine lv_iconst (v := 0) hx hb dX12_findWorms_171 (by decide) ?_
              refine va_iald hx hb hK.1 hP 3 1 rfl rfl (i := 0) (ix (by omega) (by omega)) dX12_findWorms_172 ?_
              refine lv_topi (fun x59 e60 => ?_)
              have h61 : 0 ≤ x59.toInt ∧ x59.toInt ≤ 39 := by rw [e60]; exact h4 _
              refine va_iald hx hb hK.1 hP 2 1 rfl rfl (i := x59) (ix (by omega) (by omega)) dX12_findWorms_173 ?_
              refine lv_topi (fun x62 e63 => ?_)
              have h64 : 0 ≤ x62.toInt ∧ x62.toInt ≤ 999 := by rw [e63]; exact hf12_placeOf _
              refine lv_isub hx hb dX12_findWorms_174 ?_
              refine lv_topi (fun x65 e66 => ?_)
              try have h67 : x65.toInt = x55.toInt - x62.toInt := ci_sub e66 (by omega) (by omega)
              refine lv_iload_n hx hb dX12_findWorms_175 rfl (lv_at hl 5 rfl) ?_
              refine lv_icmp_gt (tgt := 200) hx hb dX12_findWorms_176 (by decide) (fun c68 => ?_) (fun c68 => ?_)
              · have c68 := ci_lt c68
                refine lv_iconst (v := 0) hx hb dX12_findWorms_200 (by decide) ?_
                refine lv_istore (lv' := [(7, .int 0), (6, .int x28), (5, .int x22), (4, .int k12), (3, .int k2), (0, .ref a12), (1, .int p1), (2, .int p2)]) hx hb dX12_findWorms_201 hl (by decide) rfl (fun ls hl => ?_)
                refine lv_iload hx hb dX12_findWorms_203 (lv_at hl 0 rfl) ?_
                refine lv_if_ne (tgt := 228) hx hb dX12_findWorms_205 (by decide) (fun c69 => ?_) (fun c69 => ?_)
                · have c69 := ci_ne c69
                  exfalso
                  omega
                have c69 := ci_eq c69
                refine lv_aload_n hx hb dX12_findWorms_208 rfl (lv_at hl 5 rfl) ?_
                refine va_get (D := D) (ci := 12) (v := .ref (r12 12)) (C := RX12) (T := TX12) (N := 63) hx hb hts w1 hown hK.1 hP 0 rfl rfl 12 (by decide) w5 (fun _ h9 => h9) rfl dX12_findWorms_209 ?_
                refine lv_aload_n hx hb dX12_findWorms_212 rfl (lv_at hl 5 rfl) ?_
                refine va_get (D := D) (ci := 12) (v := .int v13) (C := RX12) (T := TX12) (N := 63) hx hb hts w1 hown hK.1 hP 0 rfl rfl 13 (by decide) w2 (fun _ h9 => h9) rfl dX12_findWorms_213 ?_
                refine lv_iconst (v := 0) hx hb dX12_findWorms_216 (by decide) ?_
                refine va_iast hx hb hK.1 hP hD hS 5 1 rfl rfl (i := v13) (ix (by omega) (by omega)) dX12_findWorms_217 (fun H locs hP hD hS => ?_)
                obtain ⟨g70, e71⟩ : ∃ y : Nat → Int32, y = upd g15 v13.toNatClampNeg 0 := ⟨_, rfl⟩
                rw [← e71] at hP hD
                obtain ⟨hP, hD⟩ : PD D A [O12 a12 r12 v12_keptMany v12_done v12_sheets v12_holes v13 v12_laidMany v12_wanted v12_orderMany v12_firstOrder v12_lines v12_marks v12_dots v12_madeIn v12_bound v12_places v12_maps v12_tapeMany v12_stories v12_base v12_at v12_ends v12_fault v12_opened v12_bodies v12_ran v12_ownKind v12_ownNumber, (cI κ (r12 8) 40 f12_sheetOf), (cI κ (r12 9) 40 f12_placeOf), (cI κ (r12 10) 40 g3), (cI κ (r12 11) 40 g14), (cI κ (r12 12) 40 g70)] H := ⟨hP, hD⟩
                refine lv_aload_n hx hb dX12_findWorms_218 rfl (lv_at hl 5 rfl) ?_
                refine lv_dup hx hb dX12_findWorms_219 rfl ?_
                refine va_get (D := D) (ci := 12) (v := .int v13) (C := RX12) (T := TX12) (N := 63) hx hb hts w1 hown hK.1 hP 0 rfl rfl 13 (by decide) w2 (fun _ h9 => h9) rfl dX12_findWorms_220 ?_
                refine lv_iconst (v := 1) hx hb dX12_findWorms_223 (by decide) ?_
                refine lv_iadd hx hb dX12_findWorms_224 ?_
                refine lv_topi (fun x72 e73 => ?_)
                try have h74 : x72.toInt = v13.toInt + (1 : Int32).toInt := ci_add e73 (by omega) (by omega)
                refine va_put (D := D) (ci := 12) (v := .int x72) (ty := .int) (C := RX12) (T := TX12) (N := 63) hx hb hts w1 tyX12 tyX12_ok nmX12 hown hK.1 hP hD hS 0 rfl rfl 13 (by decide) w2 (fun _ h9 => h9) rfl (by decide +kernel) rfl rfl (Nat.le_of_ble_eq_true rfl) dX12_findWorms_225 (fun H locs hP hD hS => ?_)
                obtain ⟨hP, hD⟩ : PD D A [O12 a12 r12 v12_keptMany v12_done v12_sheets v12_holes x72 v12_laidMany v12_wanted v12_orderMany v12_firstOrder v12_lines v12_marks v12_dots v12_madeIn v12_bound v12_places v12_maps v12_tapeMany v12_stories v12_base v12_at v12_ends v12_fault v12_opened v12_bodies v12_ran v12_ownKind v12_ownNumber, (cI κ (r12 8) 40 f12_sheetOf), (cI κ (r12 9) 40 f12_placeOf), (cI κ (r12 10) 40 g3), (cI κ (r12 11) 40 g14), (cI κ (r12 12) 40 g70)] H := ⟨hP, hD⟩
                have h75 : 0 ≤ x72.toInt ∧ x72.toInt ≤ 40 := by omega
                refine lv_aload_n hx hb dX12_findWorms_228 rfl (lv_at hl 5 rfl) ?_
                refine va_get (D := D) (ci := 12) (v := .ref (r12 12)) (C := RX12) (T := TX12) (N := 63) hx hb hts w1 hown hK.1 hP 0 rfl rfl 12 (by decide) w5 (fun _ h9 => h9) rfl dX12_findWorms_229 ?_
                refine lv_aload_n hx hb dX12_findWorms_232 rfl (lv_at hl 5 rfl) ?_
                refine va_get (D := D) (ci := 12) (v := .int x72) (C := RX12) (T := TX12) (N := 63) hx hb hts w1 hown hK.1 hP 0 rfl rfl 13 (by decide) w2 (fun _ h9 => h9) rfl dX12_findWorms_233 ?_
                refine lv_iconst (v := 1) hx hb dX12_findWorms_236 (by decide) ?_
                refine lv_isub hx hb dX12_findWorms_237 ?_
                refine lv_topi (fun x76 e77 => ?_)
                try have h78 : x76.toInt = x72.toInt - (1 : Int32).toInt := ci_sub e77 (by omega) (by omega)
                refine lv_dup2_11 hx hb dX12_findWorms_238 rfl rfl ?_
                refine va_iald hx hb hK.1 hP 5 1 rfl rfl (i := x76) (ix (by omega) (by omega)) dX12_findWorms_239 ?_
                refine lv_topi (fun x79 e80 => ?_)
                refine lv_iload hx hb dX12_findWorms_240 (lv_at hl 1 rfl) ?_
                refine lv_ior hx hb dX12_findWorms_242 ?_
                refine lv_topi (fun x81 e82 => ?_)
                refine va_iast hx hb hK.1 hP hD hS 5 1 rfl rfl (i := x76) (ix (by omega) (by omega)) dX12_findWorms_243 (fun H locs hP hD hS => ?_)
                obtain ⟨g83, e84⟩ : ∃ y : Nat → Int32, y = upd g70 x76.toNatClampNeg x81 := ⟨_, rfl⟩
                rw [← e84] at hP hD
                obtain ⟨hP, hD⟩ : PD D A [O12 a12 r12 v12_keptMany v12_done v12_sheets v12_holes x72 v12_laidMany v12_wanted v12_orderMany v12_firstOrder v12_lines v12_marks v12_dots v12_madeIn v12_bound v12_places v12_maps v12_tapeMany v12_stories v12_base v12_at v12_ends v12_fault v12_opened v12_bodies v12_ran v12_ownKind v12_ownNumber, (cI κ (r12 8) 40 f12_sheetOf), (cI κ (r12 9) 40 f12_placeOf), (cI κ (r12 10) 40 g3), (cI κ (r12 11) 40 g14), (cI κ (r12 12) 40 g83)] H := ⟨hP, hD⟩
                refine lv_aload_n hx hb dX12_findWorms_244 rfl (lv_at hl 5 rfl) ?_
                refine va_get (D := D) (ci := 12) (v := .ref (r12 11)) (C := RX12) (T := TX12) (N := 63) hx hb hts w1 hown hK.1 hP 0 rfl rfl 11 (by decide) w6 (fun _ h9 => h9) rfl dX12_findWorms_245 ?_
                refine lv_iload hx hb dX12_findWorms_248 (lv_at hl 2 rfl) ?_
                refine lv_aload_n hx hb dX12_findWorms_250 rfl (lv_at hl 5 rfl) ?_
                refine va_get (D := D) (ci := 12) (v := .int x72) (C := RX12) (T := TX12) (N := 63) hx hb hts w1 hown hK.1 hP 0 rfl rfl 13 (by decide) w2 (fun _ h9 => h9) rfl dX12_findWorms_251 ?_
                refine lv_iconst (v := 1) hx hb dX12_findWorms_254 (by decide) ?_
                refine lv_isub hx hb dX12_findWorms_255 ?_
                refine lv_topi (fun x85 e86 => ?_)
                try have h87 : x85.toInt = x72.toInt - (1 : Int32).toInt := ci_sub e86 (by omega) (by omega)
                refine va_iast hx hb hK.1 hP hD hS 4 1 rfl rfl (i := x22) (ix (by omega) (by omega)) dX12_findWorms_256 (fun H locs hP hD hS => ?_)
                obtain ⟨g88, e89⟩ : ∃ y : Nat → Int32, y = upd g14 x22.toNatClampNeg x85 := ⟨_, rfl⟩
                rw [← e89] at hP hD
                obtain ⟨hP, hD⟩ : PD D A [O12 a12 r12 v12_keptMany v12_done v12_sheets v12_holes x72 v12_laidMany v12_wanted v12_orderMany v12_firstOrder v12_lines v12_marks v12_dots v12_madeIn v12_bound v12_places v12_maps v12_tapeMany v12_stories v12_base v12_at v12_ends v12_fault v12_opened v12_bodies v12_ran v12_ownKind v12_ownNumber, (cI κ (r12 8) 40 f12_sheetOf), (cI κ (r12 9) 40 f12_placeOf), (cI κ (r12 10) 40 g3), (cI κ (r12 11) 40 g88), (cI κ (r12 12) 40 g83)] H := ⟨hP, hD⟩
                obtain ⟨x90, e91⟩ : ∃ y : Int32, y = k12 + 1 := ⟨_, rfl⟩
                refine lv_iinc (v := x90) (lv' := [(4, .int x90), (7, .int 0), (6, .int x28), (5, .int x22), (3, .int k2), (0, .ref a12), (1, .int p1), (2, .int p2)]) hx hb dX12_findWorms_257 hl (k := 3) rfl (by rw [e91]; rfl) (by decide) rfl (fun ls hl => ?_)
                try have h92 : x90.toInt = k12.toInt + (1 : Int32).toInt := ci_add e91 (by omega) (by omega)
                refine lv_goto (tgt := 113) hx hb dX12_findWorms_260 (by decide) ?_
                exact ih113 x90 x72 g88 g83 h75 (by omega) (by omega) (by omega) (by omega) _ _ hP hD hS _ (lv_sub hl [0, 4, 5, 6, 7] rfl)
              have c68 := ci_nlt c68
              refine lv_aload_n hx hb dX12_findWorms_179 rfl (lv_at hl 4 rfl) ?_
              refine va_get (D := D) (ci := 12) (v := .ref (r12 12)) (C := RX12) (T := TX12) (N := 63) hx hb hts w1 hown hK.1 hP 0 rfl rfl 12 (by decide) w5 (fun _ h9 => h9) rfl dX12_findWorms_180 ?_
              refine lv_aload_n hx hb dX12_findWorms_183 rfl (lv_at hl 4 rfl) ?_
              refine va_get (D := D) (ci := 12) (v := .int v13) (C := RX12) (T := TX12) (N := 63) hx hb hts w1 hown hK.1 hP 0 rfl rfl 13 (by decide) w2 (fun _ h9 => h9) rfl dX12_findWorms_184 ?_
              refine lv_iconst (v := 1) hx hb dX12_findWorms_187 (by decide) ?_
              refine lv_isub hx hb dX12_findWorms_188 ?_
              refine lv_topi (fun x93 e94 => ?_)
              try have h95 : x93.toInt = v13.toInt - (1 : Int32).toInt := ci_sub e94 (by omega) (by omega)
              refine va_iald hx hb hK.1 hP 5 1 rfl rfl (i := x93) (ix (by omega) (by omega)) dX12_findWorms_189 ?_
              refine lv_topi (fun x96 e97 => ?_)
              refine lv_iload hx hb dX12_findWorms_190 (lv_at hl 0 rfl) ?_
              refine lv_iand hx hb dX12_findWorms_192 ?_
              refine lv_topi (fun x98 e99 => ?_)
              refine lv_if_ne (tgt := 200) hx hb dX12_findWorms_193 (by decide) (fun c100 => ?_) (fun c100 => ?_)
              · have c100 := ci_ne c100
                refine lv_iconst (v := 0) hx hb dX12_findWorms_200 (by decide) ?_
                refine lv_istore (lv' := [(7, .int 0), (6, .int x28), (5, .int x22), (4, .int k12), (3, .int k2), (0, .ref a12), (1, .int p1), (2, .int p2)]) hx hb dX12_findWorms_201 hl (by decide) rfl (fun ls hl => ?_)
                refine lv_iload hx hb dX12_findWorms_203 (lv_at hl 0 rfl) ?_
                refine lv_if_ne (tgt := 228) hx hb dX12_findWorms_205 (by decide) (fun c101 => ?_) (fun c101 => ?_)
                · have c101 := ci_ne c101
                  exfalso
                  omega
                have c101 := ci_eq c101
                refine lv_aload_n hx hb dX12_findWorms_208 rfl (lv_at hl 5 rfl) ?_
                refine va_get (D := D) (ci := 12) (v := .ref (r12 12)) (C := RX12) (T := TX12) (N := 63) hx hb hts w1 hown hK.1 hP 0 rfl rfl 12 (by decide) w5 (fun _ h9 => h9) rfl dX12_findWorms_209 ?_
                refine lv_aload_n hx hb dX12_findWorms_212 rfl (lv_at hl 5 rfl) ?_
                refine va_get (D := D) (ci := 12) (v := .int v13) (C := RX12) (T := TX12) (N := 63) hx hb hts w1 hown hK.1 hP 0 rfl rfl 13 (by decide) w2 (fun _ h9 => h9) rfl dX12_findWorms_213 ?_
                refine lv_iconst (v := 0) hx hb dX12_findWorms_216 (by decide) ?_
                refine va_iast hx hb hK.1 hP hD hS 5 1 rfl rfl (i := v13) (ix (by omega) (by omega)) dX12_findWorms_217 (fun H locs hP hD hS => ?_)
                obtain ⟨g102, e103⟩ : ∃ y : Nat → Int32, y = upd g15 v13.toNatClampNeg 0 := ⟨_, rfl⟩
                rw [← e103] at hP hD
                obtain ⟨hP, hD⟩ : PD D A [O12 a12 r12 v12_keptMany v12_done v12_sheets v12_holes v13 v12_laidMany v12_wanted v12_orderMany v12_firstOrder v12_lines v12_marks v12_dots v12_madeIn v12_bound v12_places v12_maps v12_tapeMany v12_stories v12_base v12_at v12_ends v12_fault v12_opened v12_bodies v12_ran v12_ownKind v12_ownNumber, (cI κ (r12 8) 40 f12_sheetOf), (cI κ (r12 9) 40 f12_placeOf), (cI κ (r12 10) 40 g3), (cI κ (r12 11) 40 g14), (cI κ (r12 12) 40 g102)] H := ⟨hP, hD⟩
                refine lv_aload_n hx hb dX12_findWorms_218 rfl (lv_at hl 5 rfl) ?_
                refine lv_dup hx hb dX12_findWorms_219 rfl ?_
                refine va_get (D := D) (ci := 12) (v := .int v13) (C := RX12) (T := TX12) (N := 63) hx hb hts w1 hown hK.1 hP 0 rfl rfl 13 (by decide) w2 (fun _ h9 => h9) rfl dX12_findWorms_220 ?_
                refine lv_iconst (v := 1) hx hb dX12_findWorms_223 (by decide) ?_
                refine lv_iadd hx hb dX12_findWorms_224 ?_
                refine lv_topi (fun x104 e105 => ?_)
                try have h106 : x104.toInt = v13.toInt + (1 : Int32).toInt := ci_add e105 (by omega) (by omega)
                refine va_put (D := D) (ci := 12) (v := .int x104) (ty := .int) (C := RX12) (T := TX12) (N := 63) hx hb hts w1 tyX12 tyX12_ok nmX12 hown hK.1 hP hD hS 0 rfl rfl 13 (by decide) w2 (fun _ h9 => h9) rfl (by decide +kernel) rfl rfl (Nat.le_of_ble_eq_true rfl) dX12_findWorms_225 (fun H locs hP hD hS => ?_)
                obtain ⟨hP, hD⟩ : PD D A [O12 a12 r12 v12_keptMany v12_done v12_sheets v12_holes x104 v12_laidMany v12_wanted v12_orderMany v12_firstOrder v12_lines v12_marks v12_dots v12_madeIn v12_bound v12_places v12_maps v12_tapeMany v12_stories v12_base v12_at v12_ends v12_fault v12_opened v12_bodies v12_ran v12_ownKind v12_ownNumber, (cI κ (r12 8) 40 f12_sheetOf), (cI κ (r12 9) 40 f12_placeOf), (cI κ (r12 10) 40 g3), (cI κ (r12 11) 40 g14), (cI κ (r12 12) 40 g102)] H := ⟨hP, hD⟩
                have h107 : 0 ≤ x104.toInt ∧ x104.toInt ≤ 40 := by omega
                refine lv_aload_n hx hb dX12_findWorms_228 rfl (lv_at hl 5 rfl) ?_
                refine va_get (D := D) (ci := 12) (v := .ref (r12 12)) (C := RX12) (T := TX12) (N := 63) hx hb hts w1 hown hK.1 hP 0 rfl rfl 12 (by decide) w5 (fun _ h9 => h9) rfl dX12_findWorms_229 ?_
                refine lv_aload_n hx hb dX12_findWorms_232 rfl (lv_at hl 5 rfl) ?_
                refine va_get (D := D) (ci := 12) (v := .int x104) (C := RX12) (T := TX12) (N := 63) hx hb hts w1 hown hK.1 hP 0 rfl rfl 13 (by decide) w2 (fun _ h9 => h9) rfl dX12_findWorms_233 ?_
                refine lv_iconst (v := 1) hx hb dX12_findWorms_236 (by decide) ?_
                refine lv_isub hx hb dX12_findWorms_237 ?_
                refine lv_topi (fun x108 e109 => ?_)
                try have h110 : x108.toInt = x104.toInt - (1 : Int32).toInt := ci_sub e109 (by omega) (by omega)
                refine lv_dup2_11 hx hb dX12_findWorms_238 rfl rfl ?_
                refine va_iald hx hb hK.1 hP 5 1 rfl rfl (i := x108) (ix (by omega) (by omega)) dX12_findWorms_239 ?_
                refine lv_topi (fun x111 e112 => ?_)
                refine lv_iload hx hb dX12_findWorms_240 (lv_at hl 1 rfl) ?_
                refine lv_ior hx hb dX12_findWorms_242 ?_
                refine lv_topi (fun x113 e114 => ?_)
                refine va_iast hx hb hK.1 hP hD hS 5 1 rfl rfl (i := x108) (ix (by omega) (by omega)) dX12_findWorms_243 (fun H locs hP hD hS => ?_)
                obtain ⟨g115, e116⟩ : ∃ y : Nat → Int32, y = upd g102 x108.toNatClampNeg x113 := ⟨_, rfl⟩
                rw [← e116] at hP hD
                obtain ⟨hP, hD⟩ : PD D A [O12 a12 r12 v12_keptMany v12_done v12_sheets v12_holes x104 v12_laidMany v12_wanted v12_orderMany v12_firstOrder v12_lines v12_marks v12_dots v12_madeIn v12_bound v12_places v12_maps v12_tapeMany v12_stories v12_base v12_at v12_ends v12_fault v12_opened v12_bodies v12_ran v12_ownKind v12_ownNumber, (cI κ (r12 8) 40 f12_sheetOf), (cI κ (r12 9) 40 f12_placeOf), (cI κ (r12 10) 40 g3), (cI κ (r12 11) 40 g14), (cI κ (r12 12) 40 g115)] H := ⟨hP, hD⟩
                refine lv_aload_n hx hb dX12_findWorms_244 rfl (lv_at hl 5 rfl) ?_
                refine va_get (D := D) (ci := 12) (v := .ref (r12 11)) (C := RX12) (T := TX12) (N := 63) hx hb hts w1 hown hK.1 hP 0 rfl rfl 11 (by decide) w6 (fun _ h9 => h9) rfl dX12_findWorms_245 ?_
                refine lv_iload hx hb dX12_findWorms_248 (lv_at hl 2 rfl) ?_
                refine lv_aload_n hx hb dX12_findWorms_250 rfl (lv_at hl 5 rfl) ?_
                refine va_get (D := D) (ci := 12) (v := .int x104) (C := RX12) (T := TX12) (N := 63) hx hb hts w1 hown hK.1 hP 0 rfl rfl 13 (by decide) w2 (fun _ h9 => h9) rfl dX12_findWorms_251 ?_
                refine lv_iconst (v := 1) hx hb dX12_findWorms_254 (by decide) ?_
                refine lv_isub hx hb dX12_findWorms_255 ?_
                refine lv_topi (fun x117 e118 => ?_)
                try have h119 : x117.toInt = x104.toInt - (1 : Int32).toInt := ci_sub e118 (by omega) (by omega)
                refine va_iast hx hb hK.1 hP hD hS 4 1 rfl rfl (i := x22) (ix (by omega) (by omega)) dX12_findWorms_256 (fun H locs hP hD hS => ?_)
                obtain ⟨g120, e121⟩ : ∃ y : Nat → Int32, y = upd g14 x22.toNatClampNeg x117 := ⟨_, rfl⟩
                rw [← e121] at hP hD
                obtain ⟨hP, hD⟩ : PD D A [O12 a12 r12 v12_keptMany v12_done v12_sheets v12_holes x104 v12_laidMany v12_wanted v12_orderMany v12_firstOrder v12_lines v12_marks v12_dots v12_madeIn v12_bound v12_places v12_maps v12_tapeMany v12_stories v12_base v12_at v12_ends v12_fault v12_opened v12_bodies v12_ran v12_ownKind v12_ownNumber, (cI κ (r12 8) 40 f12_sheetOf), (cI κ (r12 9) 40 f12_placeOf), (cI κ (r12 10) 40 g3), (cI κ (r12 11) 40 g120), (cI κ (r12 12) 40 g115)] H := ⟨hP, hD⟩
                obtain ⟨x122, e123⟩ : ∃ y : Int32, y = k12 + 1 := ⟨_, rfl⟩
                refine lv_iinc (v := x122) (lv' := [(4, .int x122), (7, .int 0), (6, .int x28), (5, .int x22), (3, .int k2), (0, .ref a12), (1, .int p1), (2, .int p2)]) hx hb dX12_findWorms_257 hl (k := 3) rfl (by rw [e123]; rfl) (by decide) rfl (fun ls hl => ?_)
                try have h124 : x122.toInt = k12.toInt + (1 : Int32).toInt := ci_add e123 (by omega) (by omega)
                refine lv_goto (tgt := 113) hx hb dX12_findWorms_260 (by decide) ?_
                exact ih113 x122 x104 g120 g115 h107 (by omega) (by omega) (by omega) (by omega) _ _ hP hD hS _ (lv_sub hl [0, 4, 5, 6, 7] rfl)
              have c100 := ci_eq c100
              refine lv_iconst (v := 1) hx hb dX12_findWorms_196 (by decide) ?_
              refine lv_goto (tgt := 201) hx hb dX12_findWorms_197 (by decide) ?_
              refine lv_istore (lv' := [(7, .int 1), (6, .int x28), (5, .int x22), (4, .int k12), (3, .int k2), (0, .ref a12), (1, .int p1), (2, .int p2)]) hx hb dX12_findWorms_201 hl (by decide) rfl (fun ls hl => ?_)
              refine lv_iload hx hb dX12_findWorms_203 (lv_at hl 0 rfl) ?_
              refine lv_if_ne (tgt := 228) hx hb dX12_findWorms_205 (by decide) (fun c125 => ?_) (fun c125 => ?_)
              · have c125 := ci_ne c125
                refine lv_aload_n hx hb dX12_findWorms_228 rfl (lv_at hl 5 rfl) ?_
                refine va_get (D := D) (ci := 12) (v := .ref (r12 12)) (C := RX12) (T := TX12) (N := 63) hx hb hts w1 hown hK.1 hP 0 rfl rfl 12 (by decide) w5 (fun _ h9 => h9) rfl dX12_findWorms_229 ?_
                refine lv_aload_n hx hb dX12_findWorms_232 rfl (lv_at hl 5 rfl) ?_
                refine va_get (D := D) (ci := 12) (v := .int v13) (C := RX12) (T := TX12) (N := 63) hx hb hts w1 hown hK.1 hP 0 rfl rfl 13 (by decide) w2 (fun _ h9 => h9) rfl dX12_findWorms_233 ?_
                refine lv_iconst (v := 1) hx hb dX12_findWorms_236 (by decide) ?_
                refine lv_isub hx hb dX12_findWorms_237 ?_
                refine lv_topi (fun x126 e127 => ?_)
                try have h128 : x126.toInt = v13.toInt - (1 : Int32).toInt := ci_sub e127 (by omega) (by omega)
                refine lv_dup2_11 hx hb dX12_findWorms_238 rfl rfl ?_
                refine va_iald hx hb hK.1 hP 5 1 rfl rfl (i := x126) (ix (by omega) (by omega)) dX12_findWorms_239 ?_
                refine lv_topi (fun x129 e130 => ?_)
                refine lv_iload hx hb dX12_findWorms_240 (lv_at hl 1 rfl) ?_
                refine lv_ior hx hb dX12_findWorms_242 ?_
                refine lv_topi (fun x131 e132 => ?_)
                refine va_iast hx hb hK.1 hP hD hS 5 1 rfl rfl (i := x126) (ix (by omega) (by omega)) dX12_findWorms_243 (fun H locs hP hD hS => ?_)
                obtain ⟨g133, e134⟩ : ∃ y : Nat → Int32, y = upd g15 x126.toNatClampNeg x131 := ⟨_, rfl⟩
                rw [← e134] at hP hD
                obtain ⟨hP, hD⟩ : PD D A [O12 a12 r12 v12_keptMany v12_done v12_sheets v12_holes v13 v12_laidMany v12_wanted v12_orderMany v12_firstOrder v12_lines v12_marks v12_dots v12_madeIn v12_bound v12_places v12_maps v12_tapeMany v12_stories v12_base v12_at v12_ends v12_fault v12_opened v12_bodies v12_ran v12_ownKind v12_ownNumber, (cI κ (r12 8) 40 f12_sheetOf), (cI κ (r12 9) 40 f12_placeOf), (cI κ (r12 10) 40 g3), (cI κ (r12 11) 40 g14), (cI κ (r12 12) 40 g133)] H := ⟨hP, hD⟩
                refine lv_aload_n hx hb dX12_findWorms_244 rfl (lv_at hl 5 rfl) ?_
                refine va_get (D := D) (ci := 12) (v := .ref (r12 11)) (C := RX12) (T := TX12) (N := 63) hx hb hts w1 hown hK.1 hP 0 rfl rfl 11 (by decide) w6 (fun _ h9 => h9) rfl dX12_findWorms_245 ?_
                refine lv_iload hx hb dX12_findWorms_248 (lv_at hl 2 rfl) ?_
                refine lv_aload_n hx hb dX12_findWorms_250 rfl (lv_at hl 5 rfl) ?_
                refine va_get (D := D) (ci := 12) (v := .int v13) (C := RX12) (T := TX12) (N := 63) hx hb hts w1 hown hK.1 hP 0 rfl rfl 13 (by decide) w2 (fun _ h9 => h9) rfl dX12_findWorms_251 ?_
                refine lv_iconst (v := 1) hx hb dX12_findWorms_254 (by decide) ?_
                refine lv_isub hx hb dX12_findWorms_255 ?_
                refine lv_topi (fun x135 e136 => ?_)
                try have h137 : x135.toInt = v13.toInt - (1 : Int32).toInt := ci_sub e136 (by omega) (by omega)
                refine va_iast hx hb hK.1 hP hD hS 4 1 rfl rfl (i := x22) (ix (by omega) (by omega)) dX12_findWorms_256 (fun H locs hP hD hS => ?_)
                obtain ⟨g138, e139⟩ : ∃ y : Nat → Int32, y = upd g14 x22.toNatClampNeg x135 := ⟨_, rfl⟩
                rw [← e139] at hP hD
                obtain ⟨hP, hD⟩ : PD D A [O12 a12 r12 v12_keptMany v12_done v12_sheets v12_holes v13 v12_laidMany v12_wanted v12_orderMany v12_firstOrder v12_lines v12_marks v12_dots v12_madeIn v12_bound v12_places v12_maps v12_tapeMany v12_stories v12_base v12_at v12_ends v12_fault v12_opened v12_bodies v12_ran v12_ownKind v12_ownNumber, (cI κ (r12 8) 40 f12_sheetOf), (cI κ (r12 9) 40 f12_placeOf), (cI κ (r12 10) 40 g3), (cI κ (r12 11) 40 g138), (cI κ (r12 12) 40 g133)] H := ⟨hP, hD⟩
                obtain ⟨x140, e141⟩ : ∃ y : Int32, y = k12 + 1 := ⟨_, rfl⟩
                refine lv_iinc (v := x140) (lv' := [(4, .int x140), (7, .int 1), (6, .int x28), (5, .int x22), (3, .int k2), (0, .ref a12), (1, .int p1), (2, .int p2)]) hx hb dX12_findWorms_257 hl (k := 3) rfl (by rw [e141]; rfl) (by decide) rfl (fun ls hl => ?_)
                try have h142 : x140.toInt = k12.toInt + (1 : Int32).toInt := ci_add e141 (by omega) (by omega)
                refine lv_goto (tgt := 113) hx hb dX12_findWorms_260 (by decide) ?_
                exact ih113 x140 v13 g138 g133 h16 (by omega) (by omega) (by omega) (by omega) _ _ hP hD hS _ (lv_sub hl [0, 4, 5, 6, 7] rfl)
              have c125 := ci_eq c125
              exfalso
              omega
            have c58 := ci_nle c58
            refine lv_iload hx hb dX12_findWorms_164 (lv_at hl 2 rfl) ?_
            refine lv_iconst (v := 1) hx hb dX12_findWorms_166 (by decide) ?_
            refine lv_isub hx hb dX12_findWorms_167 ?_
            refine lv_topi (fun x143 e144 => ?_)
            try have h145 : x143.toInt = k12.toInt - (1 : Int32).toInt := ci_sub e144 (by omega) (by omega)
            refine lv_goto (tgt := 172) hx hb dX12_findWorms_168 (by decide) ?_
            refine va_iald hx hb hK.1 hP 3 1 rfl rfl (i := x143) (ix (by omega) (by omega)) dX12_findWorms_172 ?_
            refine lv_topi (fun x146 e147 => ?_)
            have h148 : 0 ≤ x146.toInt ∧ x146.toInt ≤ 39 := by rw [e147]; exact h4 _
            refine va_iald hx hb hK.1 hP 2 1 rfl rfl (i := x146) (ix (by omega) (by omega)) dX12_findWorms_173 ?_
            refine lv_topi (fun x149 e150 => ?_)
            have h151 : 0 ≤ x149.toInt ∧ x149.toInt ≤ 999 := by rw [e150]; exact hf12_placeOf _
            refine lv_isub hx hb dX12_findWorms_174 ?_
            refine lv_topi (fun x152 e153 => ?_)
            try have h154 : x152.toInt = x55.toInt - x149.toInt := ci_sub e153 (by omega) (by omega)
            refine lv_iload_n hx hb dX12_findWorms_175 rfl (lv_at hl 5 rfl) ?_
            refine lv_icmp_gt (tgt := 200) hx hb dX12_findWorms_176 (by decide) (fun c155 => ?_) (fun c155 => ?_)
            · have c155 := ci_lt c155
              refine lv_iconst (v := 0) hx hb dX12_findWorms_200 (by decide) ?_
              refine lv_istore (lv' := [(7, .int 0), (6, .int x28), (5, .int x22), (4, .int k12), (3, .int k2), (0, .ref a12), (1, .int p1), (2, .int p2)]) hx hb dX12_findWorms_201 hl (by decide) rfl (fun ls hl => ?_)
              refine lv_iload hx hb dX12_findWorms_203 (lv_at hl 0 rfl) ?_
              refine lv_if_ne (tgt := 228) hx hb dX12_findWorms_205 (by decide) (fun c156 => ?_) (fun c156 => ?_)
              · have c156 := ci_ne c156
                exfalso
                omega
              have c156 := ci_eq c156
              refine lv_aload_n hx hb dX12_findWorms_208 rfl (lv_at hl 5 rfl) ?_
              refine va_get (D := D) (ci := 12) (v := .ref (r12 12)) (C := RX12) (T := TX12) (N := 63) hx hb hts w1 hown hK.1 hP 0 rfl rfl 12 (by decide) w5 (fun _ h9 => h9) rfl dX12_findWorms_209 ?_
              refine lv_aload_n hx hb dX12_findWorms_212 rfl (lv_at hl 5 rfl) ?_
              refine va_get (D := D) (ci := 12) (v := .int v13) (C := RX12) (T := TX12) (N := 63) hx hb hts w1 hown hK.1 hP 0 rfl rfl 13 (by decide) w2 (fun _ h9 => h9) rfl dX12_findWorms_213 ?_
              refine lv_iconst (v := 0) hx hb dX12_findWorms_216 (by decide) ?_
              refine va_iast hx hb hK.1 hP hD hS 5 1 rfl rfl (i := v13) (ix (by omega) (by omega)) dX12_findWorms_217 (fun H locs hP hD hS => ?_)
              obtain ⟨g157, e158⟩ : ∃ y : Nat → Int32, y = upd g15 v13.toNatClampNeg 0 := ⟨_, rfl⟩
              rw [← e158] at hP hD
              obtain ⟨hP, hD⟩ : PD D A [O12 a12 r12 v12_keptMany v12_done v12_sheets v12_holes v13 v12_laidMany v12_wanted v12_orderMany v12_firstOrder v12_lines v12_marks v12_dots v12_madeIn v12_bound v12_places v12_maps v12_tapeMany v12_stories v12_base v12_at v12_ends v12_fault v12_opened v12_bodies v12_ran v12_ownKind v12_ownNumber, (cI κ (r12 8) 40 f12_sheetOf), (cI κ (r12 9) 40 f12_placeOf), (cI κ (r12 10) 40 g3), (cI κ (r12 11) 40 g14), (cI κ (r12 12) 40 g157)] H := ⟨hP, hD⟩
              refine lv_aload_n hx hb dX12_findWorms_218 rfl (lv_at hl 5 rfl) ?_
              refine lv_dup hx hb dX12_findWorms_219 rfl ?_
              refine va_get (D := D) (ci := 12) (v := .int v13) (C := RX12) (T := TX12) (N := 63) hx hb hts w1 hown hK.1 hP 0 rfl rfl 13 (by decide) w2 (fun _ h9 => h9) rfl dX12_findWorms_220 ?_
              refine lv_iconst (v := 1) hx hb dX12_findWorms_223 (by decide) ?_
              refine lv_iadd hx hb dX12_findWorms_224 ?_
              refine lv_topi (fun x159 e160 => ?_)
              try have h161 : x159.toInt = v13.toInt + (1 : Int32).toInt := ci_add e160 (by omega) (by omega)
              refine va_put (D := D) (ci := 12) (v := .int x159) (ty := .int) (C := RX12) (T := TX12) (N := 63) hx hb hts w1 tyX12 tyX12_ok nmX12 hown hK.1 hP hD hS 0 rfl rfl 13 (by decide) w2 (fun _ h9 => h9) rfl (by decide +kernel) rfl rfl (Nat.le_of_ble_eq_true rfl) dX12_findWorms_225 (fun H locs hP hD hS => ?_)
              obtain ⟨hP, hD⟩ : PD D A [O12 a12 r12 v12_keptMany v12_done v12_sheets v12_holes x159 v12_laidMany v12_wanted v12_orderMany v12_firstOrder v12_lines v12_marks v12_dots v12_madeIn v12_bound v12_places v12_maps v12_tapeMany v12_stories v12_base v12_at v12_ends v12_fault v12_opened v12_bodies v12_ran v12_ownKind v12_ownNumber, (cI κ (r12 8) 40 f12_sheetOf), (cI κ (r12 9) 40 f12_placeOf), (cI κ (r12 10) 40 g3), (cI κ (r12 11) 40 g14), (cI κ (r12 12) 40 g157)] H := ⟨hP, hD⟩
              have h162 : 0 ≤ x159.toInt ∧ x159.toInt ≤ 40 := by omega
              refine lv_aload_n hx hb dX12_findWorms_228 rfl (lv_at hl 5 rfl) ?_
              refine va_get (D := D) (ci := 12) (v := .ref (r12 12)) (C := RX12) (T := TX12) (N := 63) hx hb hts w1 hown hK.1 hP 0 rfl rfl 12 (by decide) w5 (fun _ h9 => h9) rfl dX12_findWorms_229 ?_
              refine lv_aload_n hx hb dX12_findWorms_232 rfl (lv_at hl 5 rfl) ?_
              refine va_get (D := D) (ci := 12) (v := .int x159) (C := RX12) (T := TX12) (N := 63) hx hb hts w1 hown hK.1 hP 0 rfl rfl 13 (by decide) w2 (fun _ h9 => h9) rfl dX12_findWorms_233 ?_
              refine lv_iconst (v := 1) hx hb dX12_findWorms_236 (by decide) ?_
              refine lv_isub hx hb dX12_findWorms_237 ?_
              refine lv_topi (fun x163 e164 => ?_)
              try have h165 : x163.toInt = x159.toInt - (1 : Int32).toInt := ci_sub e164 (by omega) (by omega)
              refine lv_dup2_11 hx hb dX12_findWorms_238 rfl rfl ?_
              refine va_iald hx hb hK.1 hP 5 1 rfl rfl (i := x163) (ix (by omega) (by omega)) dX12_findWorms_239 ?_
              refine lv_topi (fun x166 e167 => ?_)
              refine lv_iload hx hb dX12_findWorms_240 (lv_at hl 1 rfl) ?_
              refine lv_ior hx hb dX12_findWorms_242 ?_
              refine lv_topi (fun x168 e169 => ?_)
              refine va_iast hx hb hK.1 hP hD hS 5 1 rfl rfl (i := x163) (ix (by omega) (by omega)) dX12_findWorms_243 (fun H locs hP hD hS => ?_)
              obtain ⟨g170, e171⟩ : ∃ y : Nat → Int32, y = upd g157 x163.toNatClampNeg x168 := ⟨_, rfl⟩
              rw [← e171] at hP hD
              obtain ⟨hP, hD⟩ : PD D A [O12 a12 r12 v12_keptMany v12_done v12_sheets v12_holes x159 v12_laidMany v12_wanted v12_orderMany v12_firstOrder v12_lines v12_marks v12_dots v12_madeIn v12_bound v12_places v12_maps v12_tapeMany v12_stories v12_base v12_at v12_ends v12_fault v12_opened v12_bodies v12_ran v12_ownKind v12_ownNumber, (cI κ (r12 8) 40 f12_sheetOf), (cI κ (r12 9) 40 f12_placeOf), (cI κ (r12 10) 40 g3), (cI κ (r12 11) 40 g14), (cI κ (r12 12) 40 g170)] H := ⟨hP, hD⟩
              refine lv_aload_n hx hb dX12_findWorms_244 rfl (lv_at hl 5 rfl) ?_
              refine va_get (D := D) (ci := 12) (v := .ref (r12 11)) (C := RX12) (T := TX12) (N := 63) hx hb hts w1 hown hK.1 hP 0 rfl rfl 11 (by decide) w6 (fun _ h9 => h9) rfl dX12_findWorms_245 ?_
              refine lv_iload hx hb dX12_findWorms_248 (lv_at hl 2 rfl) ?_
              refine lv_aload_n hx hb dX12_findWorms_250 rfl (lv_at hl 5 rfl) ?_
              refine va_get (D := D) (ci := 12) (v := .int x159) (C := RX12) (T := TX12) (N := 63) hx hb hts w1 hown hK.1 hP 0 rfl rfl 13 (by decide) w2 (fun _ h9 => h9) rfl dX12_findWorms_251 ?_
              refine lv_iconst (v := 1) hx hb dX12_findWorms_254 (by decide) ?_
              refine lv_isub hx hb dX12_findWorms_255 ?_
              refine lv_topi (fun x172 e173 => ?_)
              try have h174 : x172.toInt = x159.toInt - (1 : Int32).toInt := ci_sub e173 (by omega) (by omega)
              refine va_iast hx hb hK.1 hP hD hS 4 1 rfl rfl (i := x22) (ix (by omega) (by omega)) dX12_findWorms_256 (fun H locs hP hD hS => ?_)
              obtain ⟨g175, e176⟩ : ∃ y : Nat → Int32, y = upd g14 x22.toNatClampNeg x172 := ⟨_, rfl⟩
              rw [← e176] at hP hD
              obtain ⟨hP, hD⟩ : PD D A [O12 a12 r12 v12_keptMany v12_done v12_sheets v12_holes x159 v12_laidMany v12_wanted v12_orderMany v12_firstOrder v12_lines v12_marks v12_dots v12_madeIn v12_bound v12_places v12_maps v12_tapeMany v12_stories v12_base v12_at v12_ends v12_fault v12_opened v12_bodies v12_ran v12_ownKind v12_ownNumber, (cI κ (r12 8) 40 f12_sheetOf), (cI κ (r12 9) 40 f12_placeOf), (cI κ (r12 10) 40 g3), (cI κ (r12 11) 40 g175), (cI κ (r12 12) 40 g170)] H := ⟨hP, hD⟩
              obtain ⟨x177, e178⟩ : ∃ y : Int32, y = k12 + 1 := ⟨_, rfl⟩
              refine lv_iinc (v := x177) (lv' := [(4, .int x177), (7, .int 0), (6, .int x28), (5, .int x22), (3, .int k2), (0, .ref a12), (1, .int p1), (2, .int p2)]) hx hb dX12_findWorms_257 hl (k := 3) rfl (by rw [e178]; rfl) (by decide) rfl (fun ls hl => ?_)
              try have h179 : x177.toInt = k12.toInt + (1 : Int32).toInt := ci_add e178 (by omega) (by omega)
              refine lv_goto (tgt := 113) hx hb dX12_findWorms_260 (by decide) ?_
              exact ih113 x177 x159 g175 g170 h162 (by omega) (by omega) (by omega) (by omega) _ _ hP hD hS _ (lv_sub hl [0, 4, 5, 6, 7] rfl)
            have c155 := ci_nlt c155
            refine lv_aload_n hx hb dX12_findWorms_179 rfl (lv_at hl 4 rfl) ?_
            refine va_get (D := D) (ci := 12) (v := .ref (r12 12)) (C := RX12) (T := TX12) (N := 63) hx hb hts w1 hown hK.1 hP 0 rfl rfl 12 (by decide) w5 (fun _ h9 => h9) rfl dX12_findWorms_180 ?_
            refine lv_aload_n hx hb dX12_findWorms_183 rfl (lv_at hl 4 rfl) ?_
            refine va_get (D := D) (ci := 12) (v := .int v13) (C := RX12) (T := TX12) (N := 63) hx hb hts w1 hown hK.1 hP 0 rfl rfl 13 (by decide) w2 (fun _ h9 => h9) rfl dX12_findWorms_184 ?_
            refine lv_iconst (v := 1) hx hb dX12_findWorms_187 (by decide) ?_
            refine lv_isub hx hb dX12_findWorms_188 ?_
            refine lv_topi (fun x180 e181 => ?_)
            try have h182 : x180.toInt = v13.toInt - (1 : Int32).toInt := ci_sub e181 (by omega) (by omega)
            refine va_iald hx hb hK.1 hP 5 1 rfl rfl (i := x180) (ix (by omega) (by omega)) dX12_findWorms_189 ?_
            refine lv_topi (fun x183 e184 => ?_)
            refine lv_iload hx hb dX12_findWorms_190 (lv_at hl 0 rfl) ?_
            refine lv_iand hx hb dX12_findWorms_192 ?_
            refine lv_topi (fun x185 e186 => ?_)
            refine lv_if_ne (tgt := 200) hx hb dX12_findWorms_193 (by decide) (fun c187 => ?_) (fun c187 => ?_)
            · have c187 := ci_ne c187
              refine lv_iconst (v := 0) hx hb dX12_findWorms_200 (by decide) ?_
              refine lv_istore (lv' := [(7, .int 0), (6, .int x28), (5, .int x22), (4, .int k12), (3, .int k2), (0, .ref a12), (1, .int p1), (2, .int p2)]) hx hb dX12_findWorms_201 hl (by decide) rfl (fun ls hl => ?_)
              refine lv_iload hx hb dX12_findWorms_203 (lv_at hl 0 rfl) ?_
              refine lv_if_ne (tgt := 228) hx hb dX12_findWorms_205 (by decide) (fun c188 => ?_) (fun c188 => ?_)
              · have c188 := ci_ne c188
                exfalso
                omega
              have c188 := ci_eq c188
              refine lv_aload_n hx hb dX12_findWorms_208 rfl (lv_at hl 5 rfl) ?_
              refine va_get (D := D) (ci := 12) (v := .ref (r12 12)) (C := RX12) (T := TX12) (N := 63) hx hb hts w1 hown hK.1 hP 0 rfl rfl 12 (by decide) w5 (fun _ h9 => h9) rfl dX12_findWorms_209 ?_
              refine lv_aload_n hx hb dX12_findWorms_212 rfl (lv_at hl 5 rfl) ?_
              refine va_get (D := D) (ci := 12) (v := .int v13) (C := RX12) (T := TX12) (N := 63) hx hb hts w1 hown hK.1 hP 0 rfl rfl 13 (by decide) w2 (fun _ h9 => h9) rfl dX12_findWorms_213 ?_
              refine lv_iconst (v := 0) hx hb dX12_findWorms_216 (by decide) ?_
              refine va_iast hx hb hK.1 hP hD hS 5 1 rfl rfl (i := v13) (ix (by omega) (by omega)) dX12_findWorms_217 (fun H locs hP hD hS => ?_)
              obtain ⟨g189, e190⟩ : ∃ y : Nat → Int32, y = upd g15 v13.toNatClampNeg 0 := ⟨_, rfl⟩
              rw [← e190] at hP hD
              obtain ⟨hP, hD⟩ : PD D A [O12 a12 r12 v12_keptMany v12_done v12_sheets v12_holes v13 v12_laidMany v12_wanted v12_orderMany v12_firstOrder v12_lines v12_marks v12_dots v12_madeIn v12_bound v12_places v12_maps v12_tapeMany v12_stories v12_base v12_at v12_ends v12_fault v12_opened v12_bodies v12_ran v12_ownKind v12_ownNumber, (cI κ (r12 8) 40 f12_sheetOf), (cI κ (r12 9) 40 f12_placeOf), (cI κ (r12 10) 40 g3), (cI κ (r12 11) 40 g14), (cI κ (r12 12) 40 g189)] H := ⟨hP, hD⟩
              refine lv_aload_n hx hb dX12_findWorms_218 rfl (lv_at hl 5 rfl) ?_
              refine lv_dup hx hb dX12_findWorms_219 rfl ?_
              refine va_get (D := D) (ci := 12) (v := .int v13) (C := RX12) (T := TX12) (N := 63) hx hb hts w1 hown hK.1 hP 0 rfl rfl 13 (by decide) w2 (fun _ h9 => h9) rfl dX12_findWorms_220 ?_
              refine lv_iconst (v := 1) hx hb dX12_findWorms_223 (by decide) ?_
              refine lv_iadd hx hb dX12_findWorms_224 ?_
              refine lv_topi (fun x191 e192 => ?_)
              try have h193 : x191.toInt = v13.toInt + (1 : Int32).toInt := ci_add e192 (by omega) (by omega)
              refine va_put (D := D) (ci := 12) (v := .int x191) (ty := .int) (C := RX12) (T := TX12) (N := 63) hx hb hts w1 tyX12 tyX12_ok nmX12 hown hK.1 hP hD hS 0 rfl rfl 13 (by decide) w2 (fun _ h9 => h9) rfl (by decide +kernel) rfl rfl (Nat.le_of_ble_eq_true rfl) dX12_findWorms_225 (fun H locs hP hD hS => ?_)
              obtain ⟨hP, hD⟩ : PD D A [O12 a12 r12 v12_keptMany v12_done v12_sheets v12_holes x191 v12_laidMany v12_wanted v12_orderMany v12_firstOrder v12_lines v12_marks v12_dots v12_madeIn v12_bound v12_places v12_maps v12_tapeMany v12_stories v12_base v12_at v12_ends v12_fault v12_opened v12_bodies v12_ran v12_ownKind v12_ownNumber, (cI κ (r12 8) 40 f12_sheetOf), (cI κ (r12 9) 40 f12_placeOf), (cI κ (r12 10) 40 g3), (cI κ (r12 11) 40 g14), (cI κ (r12 12) 40 g189)] H := ⟨hP, hD⟩
              have h194 : 0 ≤ x191.toInt ∧ x191.toInt ≤ 40 := by omega
              refine lv_aload_n hx hb dX12_findWorms_228 rfl (lv_at hl 5 rfl) ?_
              refine va_get (D := D) (ci := 12) (v := .ref (r12 12)) (C := RX12) (T := TX12) (N := 63) hx hb hts w1 hown hK.1 hP 0 rfl rfl 12 (by decide) w5 (fun _ h9 => h9) rfl dX12_findWorms_229 ?_
              refine lv_aload_n hx hb dX12_findWorms_232 rfl (lv_at hl 5 rfl) ?_
              refine va_get (D := D) (ci := 12) (v := .int x191) (C := RX12) (T := TX12) (N := 63) hx hb hts w1 hown hK.1 hP 0 rfl rfl 13 (by decide) w2 (fun _ h9 => h9) rfl dX12_findWorms_233 ?_
              refine lv_iconst (v := 1) hx hb dX12_findWorms_236 (by decide) ?_
              refine lv_isub hx hb dX12_findWorms_237 ?_
              refine lv_topi (fun x195 e196 => ?_)
              try have h197 : x195.toInt = x191.toInt - (1 : Int32).toInt := ci_sub e196 (by omega) (by omega)
              refine lv_dup2_11 hx hb dX12_findWorms_238 rfl rfl ?_
              refine va_iald hx hb hK.1 hP 5 1 rfl rfl (i := x195) (ix (by omega) (by omega)) dX12_findWorms_239 ?_
              refine lv_topi (fun x198 e199 => ?_)
              refine lv_iload hx hb dX12_findWorms_240 (lv_at hl 1 rfl) ?_
              refine lv_ior hx hb dX12_findWorms_242 ?_
              refine lv_topi (fun x200 e201 => ?_)
              refine va_iast hx hb hK.1 hP hD hS 5 1 rfl rfl (i := x195) (ix (by omega) (by omega)) dX12_findWorms_243 (fun H locs hP hD hS => ?_)
              obtain ⟨g202, e203⟩ : ∃ y : Nat → Int32, y = upd g189 x195.toNatClampNeg x200 := ⟨_, rfl⟩
              rw [← e203] at hP hD
              obtain ⟨hP, hD⟩ : PD D A [O12 a12 r12 v12_keptMany v12_done v12_sheets v12_holes x191 v12_laidMany v12_wanted v12_orderMany v12_firstOrder v12_lines v12_marks v12_dots v12_madeIn v12_bound v12_places v12_maps v12_tapeMany v12_stories v12_base v12_at v12_ends v12_fault v12_opened v12_bodies v12_ran v12_ownKind v12_ownNumber, (cI κ (r12 8) 40 f12_sheetOf), (cI κ (r12 9) 40 f12_placeOf), (cI κ (r12 10) 40 g3), (cI κ (r12 11) 40 g14), (cI κ (r12 12) 40 g202)] H := ⟨hP, hD⟩
              refine lv_aload_n hx hb dX12_findWorms_244 rfl (lv_at hl 5 rfl) ?_
              refine va_get (D := D) (ci := 12) (v := .ref (r12 11)) (C := RX12) (T := TX12) (N := 63) hx hb hts w1 hown hK.1 hP 0 rfl rfl 11 (by decide) w6 (fun _ h9 => h9) rfl dX12_findWorms_245 ?_
              refine lv_iload hx hb dX12_findWorms_248 (lv_at hl 2 rfl) ?_
              refine lv_aload_n hx hb dX12_findWorms_250 rfl (lv_at hl 5 rfl) ?_
              refine va_get (D := D) (ci := 12) (v := .int x191) (C := RX12) (T := TX12) (N := 63) hx hb hts w1 hown hK.1 hP 0 rfl rfl 13 (by decide) w2 (fun _ h9 => h9) rfl dX12_findWorms_251 ?_
              refine lv_iconst (v := 1) hx hb dX12_findWorms_254 (by decide) ?_
              refine lv_isub hx hb dX12_findWorms_255 ?_
              refine lv_topi (fun x204 e205 => ?_)
              try have h206 : x204.toInt = x191.toInt - (1 : Int32).toInt := ci_sub e205 (by omega) (by omega)
              refine va_iast hx hb hK.1 hP hD hS 4 1 rfl rfl (i := x22) (ix (by omega) (by omega)) dX12_findWorms_256 (fun H locs hP hD hS => ?_)
              obtain ⟨g207, e208⟩ : ∃ y : Nat → Int32, y = upd g14 x22.toNatClampNeg x204 := ⟨_, rfl⟩
              rw [← e208] at hP hD
              obtain ⟨hP, hD⟩ : PD D A [O12 a12 r12 v12_keptMany v12_done v12_sheets v12_holes x191 v12_laidMany v12_wanted v12_orderMany v12_firstOrder v12_lines v12_marks v12_dots v12_madeIn v12_bound v12_places v12_maps v12_tapeMany v12_stories v12_base v12_at v12_ends v12_fault v12_opened v12_bodies v12_ran v12_ownKind v12_ownNumber, (cI κ (r12 8) 40 f12_sheetOf), (cI κ (r12 9) 40 f12_placeOf), (cI κ (r12 10) 40 g3), (cI κ (r12 11) 40 g207), (cI κ (r12 12) 40 g202)] H := ⟨hP, hD⟩
              obtain ⟨x209, e210⟩ : ∃ y : Int32, y = k12 + 1 := ⟨_, rfl⟩
              refine lv_iinc (v := x209) (lv' := [(4, .int x209), (7, .int 0), (6, .int x28), (5, .int x22), (3, .int k2), (0, .ref a12), (1, .int p1), (2, .int p2)]) hx hb dX12_findWorms_257 hl (k := 3) rfl (by rw [e210]; rfl) (by decide) rfl (fun ls hl => ?_)
              try have h211 : x209.toInt = k12.toInt + (1 : Int32).toInt := ci_add e210 (by omega) (by omega)
              refine lv_goto (tgt := 113) hx hb dX12_findWorms_260 (by decide) ?_
              exact ih113 x209 x191 g207 g202 h194 (by omega) (by omega) (by omega) (by omega) _ _ hP hD hS _ (lv_sub hl [0, 4, 5, 6, 7] rfl)
            have c187 := ci_eq c187
            refine lv_iconst (v := 1) hx hb dX12_findWorms_196 (by decide) ?_
            refine lv_goto (tgt := 201) hx hb dX12_findWorms_197 (by decide) ?_
            refine lv_istore (lv' := [(7, .int 1), (6, .int x28), (5, .int x22), (4, .int k12), (3, .int k2), (0, .ref a12), (1, .int p1), (2, .int p2)]) hx hb dX12_findWorms_201 hl (by decide) rfl (fun ls hl => ?_)
            refine lv_iload hx hb dX12_findWorms_203 (lv_at hl 0 rfl) ?_
            refine lv_if_ne (tgt := 228) hx hb dX12_findWorms_205 (by decide) (fun c212 => ?_) (fun c212 => ?_)
            · have c212 := ci_ne c212
              refine lv_aload_n hx hb dX12_findWorms_228 rfl (lv_at hl 5 rfl) ?_
              refine va_get (D := D) (ci := 12) (v := .ref (r12 12)) (C := RX12) (T := TX12) (N := 63) hx hb hts w1 hown hK.1 hP 0 rfl rfl 12 (by decide) w5 (fun _ h9 => h9) rfl dX12_findWorms_229 ?_
              refine lv_aload_n hx hb dX12_findWorms_232 rfl (lv_at hl 5 rfl) ?_
              refine va_get (D := D) (ci := 12) (v := .int v13) (C := RX12) (T := TX12) (N := 63) hx hb hts w1 hown hK.1 hP 0 rfl rfl 13 (by decide) w2 (fun _ h9 => h9) rfl dX12_findWorms_233 ?_
              refine lv_iconst (v := 1) hx hb dX12_findWorms_236 (by decide) ?_
              refine lv_isub hx hb dX12_findWorms_237 ?_
              refine lv_topi (fun x213 e214 => ?_)
              try have h215 : x213.toInt = v13.toInt - (1 : Int32).toInt := ci_sub e214 (by omega) (by omega)
              refine lv_dup2_11 hx hb dX12_findWorms_238 rfl rfl ?_
              refine va_iald hx hb hK.1 hP 5 1 rfl rfl (i := x213) (ix (by omega) (by omega)) dX12_findWorms_239 ?_
              refine lv_topi (fun x216 e217 => ?_)
              refine lv_iload hx hb dX12_findWorms_240 (lv_at hl 1 rfl) ?_
              refine lv_ior hx hb dX12_findWorms_242 ?_
              refine lv_topi (fun x218 e219 => ?_)
              refine va_iast hx hb hK.1 hP hD hS 5 1 rfl rfl (i := x213) (ix (by omega) (by omega)) dX12_findWorms_243 (fun H locs hP hD hS => ?_)
              obtain ⟨g220, e221⟩ : ∃ y : Nat → Int32, y = upd g15 x213.toNatClampNeg x218 := ⟨_, rfl⟩
              rw [← e221] at hP hD
              obtain ⟨hP, hD⟩ : PD D A [O12 a12 r12 v12_keptMany v12_done v12_sheets v12_holes v13 v12_laidMany v12_wanted v12_orderMany v12_firstOrder v12_lines v12_marks v12_dots v12_madeIn v12_bound v12_places v12_maps v12_tapeMany v12_stories v12_base v12_at v12_ends v12_fault v12_opened v12_bodies v12_ran v12_ownKind v12_ownNumber, (cI κ (r12 8) 40 f12_sheetOf), (cI κ (r12 9) 40 f12_placeOf), (cI κ (r12 10) 40 g3), (cI κ (r12 11) 40 g14), (cI κ (r12 12) 40 g220)] H := ⟨hP, hD⟩
              refine lv_aload_n hx hb dX12_findWorms_244 rfl (lv_at hl 5 rfl) ?_
              refine va_get (D := D) (ci := 12) (v := .ref (r12 11)) (C := RX12) (T := TX12) (N := 63) hx hb hts w1 hown hK.1 hP 0 rfl rfl 11 (by decide) w6 (fun _ h9 => h9) rfl dX12_findWorms_245 ?_
              refine lv_iload hx hb dX12_findWorms_248 (lv_at hl 2 rfl) ?_
              refine lv_aload_n hx hb dX12_findWorms_250 rfl (lv_at hl 5 rfl) ?_
              refine va_get (D := D) (ci := 12) (v := .int v13) (C := RX12) (T := TX12) (N := 63) hx hb hts w1 hown hK.1 hP 0 rfl rfl 13 (by decide) w2 (fun _ h9 => h9) rfl dX12_findWorms_251 ?_
              refine lv_iconst (v := 1) hx hb dX12_findWorms_254 (by decide) ?_
              refine lv_isub hx hb dX12_findWorms_255 ?_
              refine lv_topi (fun x222 e223 => ?_)
              try have h224 : x222.toInt = v13.toInt - (1 : Int32).toInt := ci_sub e223 (by omega) (by omega)
              refine va_iast hx hb hK.1 hP hD hS 4 1 rfl rfl (i := x22) (ix (by omega) (by omega)) dX12_findWorms_256 (fun H locs hP hD hS => ?_)
              obtain ⟨g225, e226⟩ : ∃ y : Nat → Int32, y = upd g14 x22.toNatClampNeg x222 := ⟨_, rfl⟩
              rw [← e226] at hP hD
              obtain ⟨hP, hD⟩ : PD D A [O12 a12 r12 v12_keptMany v12_done v12_sheets v12_holes v13 v12_laidMany v12_wanted v12_orderMany v12_firstOrder v12_lines v12_marks v12_dots v12_madeIn v12_bound v12_places v12_maps v12_tapeMany v12_stories v12_base v12_at v12_ends v12_fault v12_opened v12_bodies v12_ran v12_ownKind v12_ownNumber, (cI κ (r12 8) 40 f12_sheetOf), (cI κ (r12 9) 40 f12_placeOf), (cI κ (r12 10) 40 g3), (cI κ (r12 11) 40 g225), (cI κ (r12 12) 40 g220)] H := ⟨hP, hD⟩
              obtain ⟨x227, e228⟩ : ∃ y : Int32, y = k12 + 1 := ⟨_, rfl⟩
              refine lv_iinc (v := x227) (lv' := [(4, .int x227), (7, .int 1), (6, .int x28), (5, .int x22), (3, .int k2), (0, .ref a12), (1, .int p1), (2, .int p2)]) hx hb dX12_findWorms_257 hl (k := 3) rfl (by rw [e228]; rfl) (by decide) rfl (fun ls hl => ?_)
              try have h229 : x227.toInt = k12.toInt + (1 : Int32).toInt := ci_add e228 (by omega) (by omega)
              refine lv_goto (tgt := 113) hx hb dX12_findWorms_260 (by decide) ?_
              exact ih113 x227 v13 g225 g220 h16 (by omega) (by omega) (by omega) (by omega) _ _ hP hD hS _ (lv_sub hl [0, 4, 5, 6, 7] rfl)
            have c212 := ci_eq c212
            exfalso
            omega
        exact lp113 ((k2.toInt - (0 : Int32).toInt).toNat + 1) 0 0 g5 f12_wormSheets h11 (by omega) (by omega) (by omega) (by omega) _ _ hP hD hS _ hl
      have c10 := ci_nle c10
      refine lv_aload_n hx hb dX12_findWorms_14 rfl (lv_at hl 2 rfl) ?_
      refine va_get (D := D) (ci := 12) (v := .ref (r12 11)) (C := RX12) (T := TX12) (N := 63) hx hb hts w1 hown hK.1 hP 0 rfl rfl 11 (by decide) w6 (fun _ h9 => h9) rfl dX12_findWorms_15 ?_
      refine lv_iload hx hb dX12_findWorms_18 (lv_at hl 0 rfl) ?_
      refine lv_iconst (v := (-1)) hx hb dX12_findWorms_20 (by decide) ?_
      refine va_iast hx hb hK.1 hP hD hS 4 1 rfl rfl (i := k1) (ix (by omega) (by omega)) dX12_findWorms_21 (fun H locs hP hD hS => ?_)
      obtain ⟨g230, e231⟩ : ∃ y : Nat → Int32, y = upd g5 k1.toNatClampNeg (-1) := ⟨_, rfl⟩
      rw [← e231] at hP hD
      obtain ⟨hP, hD⟩ : PD D A [O12 a12 r12 v12_keptMany v12_done v12_sheets v12_holes v12_worms v12_laidMany v12_wanted v12_orderMany v12_firstOrder v12_lines v12_marks v12_dots v12_madeIn v12_bound v12_places v12_maps v12_tapeMany v12_stories v12_base v12_at v12_ends v12_fault v12_opened v12_bodies v12_ran v12_ownKind v12_ownNumber, (cI κ (r12 8) 40 f12_sheetOf), (cI κ (r12 9) 40 f12_placeOf), (cI κ (r12 10) 40 g3), (cI κ (r12 11) 40 g230), (cI κ (r12 12) 40 f12_wormSheets)] H := ⟨hP, hD⟩
      refine lv_aload_n hx hb dX12_findWorms_22 rfl (lv_at hl 2 rfl) ?_
      refine va_get (D := D) (ci := 12) (v := .ref (r12 8)) (C := RX12) (T := TX12) (N := 63) hx hb hts w1 hown hK.1 hP 0 rfl rfl 8 (by decide) w4 (fun _ h9 => h9) rfl dX12_findWorms_23 ?_
      refine lv_iload hx hb dX12_findWorms_26 (lv_at hl 0 rfl) ?_
      refine va_iald hx hb hK.1 hP 1 1 rfl rfl (i := k1) (ix (by omega) (by omega)) dX12_findWorms_28 ?_
      refine lv_topi (fun x232 e233 => ?_)
      have h234 : 0 ≤ x232.toInt ∧ x232.toInt ≤ 7 := by rw [e233]; exact hf12_sheetOf _
      refine lv_iload_n hx hb dX12_findWorms_29 rfl (lv_at hl 4 rfl) ?_
      refine lv_icmp_eq (tgt := 99) hx hb dX12_findWorms_30 (by decide) (fun c235 => ?_) (fun c235 => ?_)
      · have c235 := ci_eq c235
        obtain ⟨x236, e237⟩ : ∃ y : Int32, y = k1 + 1 := ⟨_, rfl⟩
        refine lv_iinc (v := x236) (lv' := [(4, .int x236), (3, .int k2), (0, .ref a12), (1, .int p1), (2, .int p2)]) hx hb dX12_findWorms_99 hl (k := 0) rfl (by rw [e237]; rfl) (by decide) rfl (fun ls hl => ?_)
        try have h238 : x236.toInt = k1.toInt + (1 : Int32).toInt := ci_add e237 (by omega) (by omega)
        refine lv_goto (tgt := 5) hx hb dX12_findWorms_102 (by decide) ?_
        exact ih5 x236 k2 g3 g230 h4 (by omega) (by omega) (by omega) (by omega) _ _ hP hD hS _ hl
      have c235 := ci_ne c235
      refine lv_iload_n hx hb dX12_findWorms_33 rfl (lv_at hl 1 rfl) ?_
      refine lv_istore (lv' := [(5, .int k2), (4, .int k1), (3, .int k2), (0, .ref a12), (1, .int p1), (2, .int p2)]) hx hb dX12_findWorms_34 hl (by decide) rfl (fun ls hl => ?_)
      have lp36 : ∀ (n36 : Nat) (k239 : Int32) (g240 : Nat → Int32), (∀ j : Nat, 0 ≤ (g240 j).toInt ∧ (g240 j).toInt ≤ 39) → (0 ≤ k239.toInt ∧ k239.toInt ≤ k2.toInt) → (k239.toInt).toNat < n36 → ∀ (H : Heap) (locs : List Loc), va_P D vwCl [O12 a12 r12 v12_keptMany v12_done v12_sheets v12_holes v12_worms v12_laidMany v12_wanted v12_orderMany v12_firstOrder v12_lines v12_marks v12_dots v12_madeIn v12_bound v12_places v12_maps v12_tapeMany v12_stories v12_base v12_at v12_ends v12_fault v12_opened v12_bodies v12_ran v12_ownKind v12_ownNumber, (cI κ (r12 8) 40 f12_sheetOf), (cI κ (r12 9) 40 f12_placeOf), (cI κ (r12 10) 40 g240), (cI κ (r12 11) 40 g230), (cI κ (r12 12) 40 f12_wormSheets)] H → va_D A [O12 a12 r12 v12_keptMany v12_done v12_sheets v12_holes v12_worms v12_laidMany v12_wanted v12_orderMany v12_firstOrder v12_lines v12_marks v12_dots v12_madeIn v12_bound v12_places v12_maps v12_tapeMany v12_stories v12_base v12_at v12_ends v12_fault v12_opened v12_bodies v12_ran v12_ownKind v12_ownNumber, (cI κ (r12 8) 40 f12_sheetOf), (cI κ (r12 9) 40 f12_placeOf), (cI κ (r12 10) 40 g240), (cI κ (r12 11) 40 g230), (cI κ (r12 12) 40 f12_wormSheets)] → va_S A s.heap H locs → ∀ ls : Array Slot, lv_has ls 8 [(5, .int k239), (4, .int k1), (3, .int k2), (0, .ref a12), (1, .int p1), (2, .int p2)] → W p l e ({ frames := 0, cells := 0, slots := 0, locals := 0 } : Room) s m args below meth c H locs 0 0 Q (F0 m 36 ls []) := by
        intro n36
        induction n36 with
        | zero =>
          intro k239 g240 h241 h242 m243
          exact absurd m243 (Nat.not_lt_zero _)
        | succ n36 ih36 =>
          intro k239 g240 h241 h242 m243 H locs hP hD hS ls hl
          refine lv_iload hx hb dX12_findWorms_36 (lv_at hl 0 rfl) ?_
          refine lv_if_le (tgt := 87) hx hb dX12_findWorms_38 (by decide) (fun c244 => ?_) (fun c244 => ?_)
          · have c244 := ci_le c244
            refine lv_aload_n hx hb dX12_findWorms_87 rfl (lv_at hl 3 rfl) ?_
            refine va_get (D := D) (ci := 12) (v := .ref (r12 10)) (C := RX12) (T := TX12) (N := 63) hx hb hts w1 hown hK.1 hP 0 rfl rfl 10 (by decide) w3 (fun _ h9 => h9) rfl dX12_findWorms_88 ?_
            refine lv_iload hx hb dX12_findWorms_91 (lv_at hl 0 rfl) ?_
            refine lv_iload hx hb dX12_findWorms_93 (lv_at hl 1 rfl) ?_
            refine va_iast hx hb hK.1 hP hD hS 3 1 rfl rfl (i := k239) (ix (by omega) (by omega)) dX12_findWorms_95 (fun H locs hP hD hS => ?_)
            obtain ⟨g245, e246⟩ : ∃ y : Nat → Int32, y = upd g240 k239.toNatClampNeg k1 := ⟨_, rfl⟩
            rw [← e246] at hP hD
            obtain ⟨hP, hD⟩ : PD D A [O12 a12 r12 v12_keptMany v12_done v12_sheets v12_holes v12_worms v12_laidMany v12_wanted v12_orderMany v12_firstOrder v12_lines v12_marks v12_dots v12_madeIn v12_bound v12_places v12_maps v12_tapeMany v12_stories v12_base v12_at v12_ends v12_fault v12_opened v12_bodies v12_ran v12_ownKind v12_ownNumber, (cI κ (r12 8) 40 f12_sheetOf), (cI κ (r12 9) 40 f12_placeOf), (cI κ (r12 10) 40 g245), (cI κ (r12 11) 40 g230), (cI κ (r12 12) 40 f12_wormSheets)] H := ⟨hP, hD⟩
            have h247 : ∀ j : Nat, 0 ≤ (g245 j).toInt ∧ (g245 j).toInt ≤ 39 := by rw [e246]; exact all_upd (P := fun z => 0 ≤ z.toInt ∧ z.toInt ≤ 39) h241 (by omega)
            obtain ⟨x248, e249⟩ : ∃ y : Int32, y = k2 + 1 := ⟨_, rfl⟩
            refine lv_iinc (v := x248) (lv' := [(3, .int x248), (5, .int k239), (4, .int k1), (0, .ref a12), (1, .int p1), (2, .int p2)]) hx hb dX12_findWorms_96 hl (k := 2) rfl (by rw [e249]; rfl) (by decide) rfl (fun ls hl => ?_)
            try have h250 : x248.toInt = k2.toInt + (1 : Int32).toInt := ci_add e249 (by omega) (by omega)
            obtain ⟨x251, e252⟩ : ∃ y : Int32, y = k1 + 1 := ⟨_, rfl⟩
            refine lv_iinc (v := x251) (lv' := [(4, .int x251), (3, .int x248), (5, .int k239), (0, .ref a12), (1, .int p1), (2, .int p2)]) hx hb dX12_findWorms_99 hl (k := 2) rfl (by rw [e252]; rfl) (by decide) rfl (fun ls hl => ?_)
            try have h253 : x251.toInt = k1.toInt + (1 : Int32).toInt := ci_add e252 (by omega) (by omega)
            refine lv_goto (tgt := 5) hx hb dX12_findWorms_102 (by decide) ?_
            exact ih5 x251 x248 g245 g230 h247 (by omega) (by omega) (by omega) (by omega) _ _ hP hD hS _ (lv_sub hl [0, 1, 3, 4, 5] rfl)
          have c244 := ci_nle c244
          refine lv_aload_n hx hb dX12_findWorms_41 rfl (lv_at hl 3 rfl) ?_
          refine va_get (D := D) (ci := 12) (v := .ref (r12 9)) (C := RX12) (T := TX12) (N := 63) hx hb hts w1 hown hK.1 hP 0 rfl rfl 9 (by decide) w7 (fun _ h9 => h9) rfl dX12_findWorms_42 ?_
          refine lv_aload_n hx hb dX12_findWorms_45 rfl (lv_at hl 3 rfl) ?_
          refine va_get (D := D) (ci := 12) (v := .ref (r12 10)) (C := RX12) (T := TX12) (N := 63) hx hb hts w1 hown hK.1 hP 0 rfl rfl 10 (by decide) w3 (fun _ h9 => h9) rfl dX12_findWorms_46 ?_
          refine lv_iload hx hb dX12_findWorms_49 (lv_at hl 0 rfl) ?_
          refine lv_iconst (v := 1) hx hb dX12_findWorms_51 (by decide) ?_
          refine lv_isub hx hb dX12_findWorms_52 ?_
          refine lv_topi (fun x254 e255 => ?_)
          try have h256 : x254.toInt = k239.toInt - (1 : Int32).toInt := ci_sub e255 (by omega) (by omega)
          refine va_iald hx hb hK.1 hP 3 1 rfl rfl (i := x254) (ix (by omega) (by omega)) dX12_findWorms_53 ?_
          refine lv_topi (fun x257 e258 => ?_)
          have h259 : 0 ≤ x257.toInt ∧ x257.toInt ≤ 39 := by rw [e258]; exact h241 _
          refine va_iald hx hb hK.1 hP 2 1 rfl rfl (i := x257) (ix (by omega) (by omega)) dX12_findWorms_54 ?_
          refine lv_topi (fun x260 e261 => ?_)
          have h262 : 0 ≤ x260.toInt ∧ x260.toInt ≤ 999 := by rw [e261]; exact hf12_placeOf _
          refine lv_aload_n hx hb dX12_findWorms_55 rfl (lv_at hl 3 rfl) ?_
          refine va_get (D := D) (ci := 12) (v := .ref (r12 9)) (C := RX12) (T := TX12) (N := 63) hx hb hts w1 hown hK.1 hP 0 rfl rfl 9 (by decide) w7 (fun _ h9 => h9) rfl dX12_findWorms_56 ?_
          refine lv_iload hx hb dX12_findWorms_59 (lv_at hl 1 rfl) ?_
          refine va_iald hx hb hK.1 hP 2 1 rfl rfl (i := k1) (ix (by omega) (by omega)) dX12_findWorms_61 ?_
          refine lv_topi (fun x263 e264 => ?_)
          have h265 : 0 ≤ x263.toInt ∧ x263.toInt ≤ 999 := by rw [e264]; exact hf12_placeOf _
          refine lv_icmp_le (tgt := 87) hx hb dX12_findWorms_62 (by decide) (fun c266 => ?_) (fun c266 => ?_)
          · have c266 := ci_le c266
            refine lv_aload_n hx hb dX12_findWorms_87 rfl (lv_at hl 3 rfl) ?_
            refine va_get (D := D) (ci := 12) (v := .ref (r12 10)) (C := RX12) (T := TX12) (N := 63) hx hb hts w1 hown hK.1 hP 0 rfl rfl 10 (by decide) w3 (fun _ h9 => h9) rfl dX12_findWorms_88 ?_
            refine lv_iload hx hb dX12_findWorms_91 (lv_at hl 0 rfl) ?_
            refine lv_iload hx hb dX12_findWorms_93 (lv_at hl 1 rfl) ?_
            refine va_iast hx hb hK.1 hP hD hS 3 1 rfl rfl (i := k239) (ix (by omega) (by omega)) dX12_findWorms_95 (fun H locs hP hD hS => ?_)
            obtain ⟨g267, e268⟩ : ∃ y : Nat → Int32, y = upd g240 k239.toNatClampNeg k1 := ⟨_, rfl⟩
            rw [← e268] at hP hD
            obtain ⟨hP, hD⟩ : PD D A [O12 a12 r12 v12_keptMany v12_done v12_sheets v12_holes v12_worms v12_laidMany v12_wanted v12_orderMany v12_firstOrder v12_lines v12_marks v12_dots v12_madeIn v12_bound v12_places v12_maps v12_tapeMany v12_stories v12_base v12_at v12_ends v12_fault v12_opened v12_bodies v12_ran v12_ownKind v12_ownNumber, (cI κ (r12 8) 40 f12_sheetOf), (cI κ (r12 9) 40 f12_placeOf), (cI κ (r12 10) 40 g267), (cI κ (r12 11) 40 g230), (cI κ (r12 12) 40 f12_wormSheets)] H := ⟨hP, hD⟩
            have h269 : ∀ j : Nat, 0 ≤ (g267 j).toInt ∧ (g267 j).toInt ≤ 39 := by rw [e268]; exact all_upd (P := fun z => 0 ≤ z.toInt ∧ z.toInt ≤ 39) h241 (by omega)
            obtain ⟨x270, e271⟩ : ∃ y : Int32, y = k2 + 1 := ⟨_, rfl⟩
            refine lv_iinc (v := x270) (lv' := [(3, .int x270), (5, .int k239), (4, .int k1), (0, .ref a12), (1, .int p1), (2, .int p2)]) hx hb dX12_findWorms_96 hl (k := 2) rfl (by rw [e271]; rfl) (by decide) rfl (fun ls hl => ?_)
            try have h272 : x270.toInt = k2.toInt + (1 : Int32).toInt := ci_add e271 (by omega) (by omega)
            obtain ⟨x273, e274⟩ : ∃ y : Int32, y = k1 + 1 := ⟨_, rfl⟩
            refine lv_iinc (v := x273) (lv' := [(4, .int x273), (3, .int x270), (5, .int k239), (0, .ref a12), (1, .int p1), (2, .int p2)]) hx hb dX12_findWorms_99 hl (k := 2) rfl (by rw [e274]; rfl) (by decide) rfl (fun ls hl => ?_)
            try have h275 : x273.toInt = k1.toInt + (1 : Int32).toInt := ci_add e274 (by omega) (by omega)
            refine lv_goto (tgt := 5) hx hb dX12_findWorms_102 (by decide) ?_
            exact ih5 x273 x270 g267 g230 h269 (by omega) (by omega) (by omega) (by omega) _ _ hP hD hS _ (lv_sub hl [0, 1, 3, 4, 5] rfl)
          have c266 := ci_nle c266
          refine lv_aload_n hx hb dX12_findWorms_65 rfl (lv_at hl 3 rfl) ?_
          refine va_get (D := D) (ci := 12) (v := .ref (r12 10)) (C := RX12) (T := TX12) (N := 63) hx hb hts w1 hown hK.1 hP 0 rfl rfl 10 (by decide) w3 (fun _ h9 => h9) rfl dX12_findWorms_66 ?_
          refine lv_iload hx hb dX12_findWorms_69 (lv_at hl 0 rfl) ?_
          refine lv_aload_n hx hb dX12_findWorms_71 rfl (lv_at hl 3 rfl) ?_
          refine va_get (D := D) (ci := 12) (v := .ref (r12 10)) (C := RX12) (T := TX12) (N := 63) hx hb hts w1 hown hK.1 hP 0 rfl rfl 10 (by decide) w3 (fun _ h9 => h9) rfl dX12_findWorms_72 ?_
          refine lv_iload hx hb dX12_findWorms_75 (lv_at hl 0 rfl) ?_
          refine lv_iconst (v := 1) hx hb dX12_findWorms_77 (by decide) ?_
          refine lv_isub hx hb dX12_findWorms_78 ?_
          refine lv_topi (fun x276 e277 => ?_)
          try have h278 : x276.toInt = k239.toInt - (1 : Int32).toInt := ci_sub e277 (by omega) (by omega)
          refine va_iald hx hb hK.1 hP 3 1 rfl rfl (i := x276) (ix (by omega) (by omega)) dX12_findWorms_79 ?_
          refine lv_topi (fun x279 e280 => ?_)
          have h281 : 0 ≤ x279.toInt ∧ x279.toInt ≤ 39 := by rw [e280]; exact h241 _
          refine va_iast hx hb hK.1 hP hD hS 3 1 rfl rfl (i := k239) (ix (by omega) (by omega)) dX12_findWorms_80 (fun H locs hP hD hS => ?_)
          obtain ⟨g282, e283⟩ : ∃ y : Nat → Int32, y = upd g240 k239.toNatClampNeg x279 := ⟨_, rfl⟩
          rw [← e283] at hP hD
          obtain ⟨hP, hD⟩ : PD D A [O12 a12 r12 v12_keptMany v12_done v12_sheets v12_holes v12_worms v12_laidMany v12_wanted v12_orderMany v12_firstOrder v12_lines v12_marks v12_dots v12_madeIn v12_bound v12_places v12_maps v12_tapeMany v12_stories v12_base v12_at v12_ends v12_fault v12_opened v12_bodies v12_ran v12_ownKind v12_ownNumber, (cI κ (r12 8) 40 f12_sheetOf), (cI κ (r12 9) 40 f12_placeOf), (cI κ (r12 10) 40 g282), (cI κ (r12 11) 40 g230), (cI κ (r12 12) 40 f12_wormSheets)] H := ⟨hP, hD⟩
          have h284 : ∀ j : Nat, 0 ≤ (g282 j).toInt ∧ (g282 j).toInt ≤ 39 := by rw [e283]; exact all_upd (P := fun z => 0 ≤ z.toInt ∧ z.toInt ≤ 39) h241 (by omega)
          obtain ⟨x285, e286⟩ : ∃ y : Int32, y = k239 + (-1) := ⟨_, rfl⟩
          refine lv_iinc (v := x285) (lv' := [(5, .int x285), (4, .int k1), (3, .int k2), (0, .ref a12), (1, .int p1), (2, .int p2)]) hx hb dX12_findWorms_81 hl (k := 0) rfl (by rw [e286]; rfl) (by decide) rfl (fun ls hl => ?_)
          try have h287 : x285.toInt = k239.toInt + ((-1) : Int32).toInt := ci_add e286 (by omega) (by omega)
          refine lv_goto (tgt := 36) hx hb dX12_findWorms_84 (by decide) ?_
          exact ih36 x285 g282 h284 (by omega) (by omega) _ _ hP hD hS _ hl
      exact lp36 ((k2.toInt).toNat + 1) k2 g3 h4 (by omega) (by omega) _ _ hP hD hS _ hl
  exact lp5 ((v12_holes.toInt - (0 : Int32).toInt).toNat + 1) 0 0 f12_sorted f12_wormOf hf12_sorted (by omega) (by omega) (by omega) (by omega) _ _ hP hD hS _ hl
set_option maxHeartbeats 4000000 in
set_option maxRecDepth 100000 in
theorem k_X12_findWorms_all (l : Launch) (D : va_G) (κ : Nat → ClassId) (β : Nat) (a12 : Nat) (r12 : Nat → Nat) (v12_keptMany : Int32) (v12_done : Int32) (v12_sheets : Int32) (v12_holes : Int32) (v12_worms : Int32) (v12_laidMany : Int32) (v12_wanted : Int32) (v12_orderMany : Int32) (v12_firstOrder : Int32) (v12_lines : Int32) (v12_marks : Int32) (v12_dots : Int32) (v12_madeIn : Int32) (v12_bound : Int32) (v12_places : Int32) (v12_maps : Int32) (v12_tapeMany : Int32) (v12_stories : Int32) (v12_base : Int32) (v12_at : Int32) (v12_ends : Int32) (v12_fault : Int32) (v12_opened : Int32) (v12_bodies : Int32) (v12_ran : Int32) (v12_ownKind : Int32) (v12_ownNumber : Int32) (f12_sheetOf : Nat → Int32) (f12_placeOf : Nat → Int32) (f12_sorted : Nat → Int32) (f12_wormOf : Nat → Int32) (f12_wormSheets : Nat → Int32) (sz : Nat) (p1 : Int32) (p2 : Int32) (i1 : Rg 0 40 v12_keptMany) (i2 : Rg 0 40 v12_done) (i3 : Rg 0 8 v12_sheets) (i4 : Rg 0 40 v12_holes) (i5 : Rg 0 40 v12_worms) (i6 : Rg 0 8 v12_laidMany) (i7 : Rg 0 8 v12_wanted) (i8 : Rg 0 20 v12_lines) (i9 : Rg 0 60 v12_marks) (i10 : Rg 0 40 v12_dots) (i11 : Rg 0 20 v12_places) (i12 : Rg 0 8 v12_maps) (i13 : Rg 0 120 v12_tapeMany) (i14 : Rg 0 6 v12_stories) (i15 : Rg 0 50 v12_bodies) (i16 : Rg 0 1000 v12_ran) (hf12_sheetOf : ∀ j : Nat, 0 ≤ (f12_sheetOf j).toInt ∧ (f12_sheetOf j).toInt ≤ 7) (hf12_placeOf : ∀ j : Nat, 0 ≤ (f12_placeOf j).toInt ∧ (f12_placeOf j).toInt ≤ 999) (hf12_sorted : ∀ j : Nat, 0 ≤ (f12_sorted j).toInt ∧ (f12_sorted j).toInt ≤ 39) (i17 : v12_done.toInt ≤ v12_keptMany.toInt) (i18 : p2.toInt = -1) : Met l yX12_findWorms wsX12_findWorms ({ frames := 0, cells := 0, slots := 0, locals := 0 } : Room) (PcK D κ β [O12 a12 r12 v12_keptMany v12_done v12_sheets v12_holes v12_worms v12_laidMany v12_wanted v12_orderMany v12_firstOrder v12_lines v12_marks v12_dots v12_madeIn v12_bound v12_places v12_maps v12_tapeMany v12_stories v12_base v12_at v12_ends v12_fault v12_opened v12_bodies v12_ran v12_ownKind v12_ownNumber, (cI κ (r12 8) 40 f12_sheetOf), (cI κ (r12 9) 40 f12_placeOf), (cI κ (r12 10) 40 f12_sorted), (cI κ (r12 11) 40 f12_wormOf), (cI κ (r12 12) 40 f12_wormSheets)] sz [.ref a12, .int p1, .int p2]) (QvK D (fun (u : Int32 × (Nat → Int32) × (Nat → Int32) × (Nat → Int32)) => (0 ≤ u.1.toInt ∧ u.1.toInt ≤ 40) ∧ (∀ j : Nat, 0 ≤ (u.2.1 j).toInt ∧ (u.2.1 j).toInt ≤ 39) ∧ (WInv (srt f12_placeOf v12_holes.toInt.toNat) f12_sheetOf f12_placeOf p1.toInt v12_holes.toInt.toNat u.1 u.2.2.2 u.2.2.1)) (fun (u : Int32 × (Nat → Int32) × (Nat → Int32) × (Nat → Int32)) => [O12 a12 r12 v12_keptMany v12_done v12_sheets v12_holes u.1 v12_laidMany v12_wanted v12_orderMany v12_firstOrder v12_lines v12_marks v12_dots v12_madeIn v12_bound v12_places v12_maps v12_tapeMany v12_stories v12_base v12_at v12_ends v12_fault v12_opened v12_bodies v12_ran v12_ownKind v12_ownNumber, (cI κ (r12 8) 40 f12_sheetOf), (cI κ (r12 9) 40 f12_placeOf), (cI κ (r12 10) 40 u.2.1), (cI κ (r12 11) 40 u.2.2.1), (cI κ (r12 12) 40 u.2.2.2)]) [O12 a12 r12 v12_keptMany v12_done v12_sheets v12_holes v12_worms v12_laidMany v12_wanted v12_orderMany v12_firstOrder v12_lines v12_marks v12_dots v12_madeIn v12_bound v12_places v12_maps v12_tapeMany v12_stories v12_base v12_at v12_ends v12_fault v12_opened v12_bodies v12_ran v12_ownKind v12_ownNumber, (cI κ (r12 8) 40 f12_sheetOf), (cI κ (r12 9) 40 f12_placeOf), (cI κ (r12 10) 40 f12_sorted), (cI κ (r12 11) 40 f12_wormOf), (cI κ (r12 12) 40 f12_wormSheets)] sz) 0 0 (va_A [O12 a12 r12 v12_keptMany v12_done v12_sheets v12_holes v12_worms v12_laidMany v12_wanted v12_orderMany v12_firstOrder v12_lines v12_marks v12_dots v12_madeIn v12_bound v12_places v12_maps v12_tapeMany v12_stories v12_base v12_at v12_ends v12_fault v12_opened v12_bodies v12_ran v12_ownKind v12_ownNumber, (cI κ (r12 8) 40 f12_sheetOf), (cI κ (r12 9) 40 f12_placeOf), (cI κ (r12 10) 40 f12_sorted), (cI κ (r12 11) 40 f12_wormOf), (cI κ (r12 12) 40 f12_wormSheets)] sz) := by
  refine ofK_v (cc := cX12_findWorms) (maxL := 8) (own := RX12) (by decide) rfl rfl (Nat.le_of_ble_eq_true rfl) ?_
  intro p e s m args below meth c Q A ls hsz hx hb hml hts hown hK hA hAB hP hD hl hname ret
  have hS : va_S A s.heap s.heap [] := va_S.rf
  have hl : lv_has ls 8 [(0, .ref a12), (1, .int p1), (2, .int p2)] := hl
  have w0 := hts (.fieldLink RX12 140 "OlderSkinModel" "holes" "I") (List.mem_of_getElem? (i := 1) rfl)
  have w1 := (fun w h => List.mem_cons_of_mem _ (List.mem_append_right _ h) : ∀ w ∈ u_ws RX12 TX12 63, w ∈ wsX12_findWorms)
  have w2 := hts (.fieldLink RX12 160 "OlderSkinModel" "worms" "I") (List.mem_of_getElem? (i := 6) rfl)
  have w3 := hts (.fieldLink RX12 28 "OlderSkinModel" "sorted" "[I") (List.mem_of_getElem? (i := 5) rfl)
  have w4 := hts (.fieldLink RX12 22 "OlderSkinModel" "sheetOf" "[I") (List.mem_of_getElem? (i := 3) rfl)
  have w5 := hts (.fieldLink RX12 34 "OlderSkinModel" "wormSheets" "[I") (List.mem_of_getElem? (i := 7) rfl)
  have w6 := hts (.fieldLink RX12 31 "OlderSkinModel" "wormOf" "[I") (List.mem_of_getElem? (i := 2) rfl)
  have w7 := hts (.fieldLink RX12 25 "OlderSkinModel" "placeOf" "[I") (List.mem_of_getElem? (i := 4) rfl)
  have l0 : (0 : Int32).toInt = 0 := by decide
  have l1 : (1 : Int32).toInt = 1 := by decide
  have l2 : ((-1) : Int32).toInt = -1 := by decide
  have i4 : 0 ≤ v12_holes.toInt ∧ v12_holes.toInt ≤ 40 := i4
  have i5 : 0 ≤ v12_worms.toInt ∧ v12_worms.toInt ≤ 40 := i5
  refine lv_iconst (v := 0) hx hb dX12_findWorms_0 (by decide) ?_
  refine lv_istore_n (lv' := [(3, .int 0), (0, .ref a12), (1, .int p1), (2, .int p2)]) hx hb dX12_findWorms_1 rfl hl (by decide) rfl (fun ls hl => ?_)
  refine lv_iconst (v := 0) hx hb dX12_findWorms_2 (by decide) ?_
  refine lv_istore (lv' := [(4, .int 0), (3, .int 0), (0, .ref a12), (1, .int p1), (2, .int p2)]) hx hb dX12_findWorms_3 hl (by decide) rfl (fun ls hl => ?_)
  have lp5 : ∀ (n5 : Nat) (k1 : Int32) (k2 : Int32) (g3 : Nat → Int32) (g5 : Nat → Int32), (∀ j : Nat, 0 ≤ (g3 j).toInt ∧ (g3 j).toInt ≤ 39) → (0 ≤ k1.toInt) → (k2.toInt = k1.toInt) → (k1.toInt ≤ v12_holes.toInt) → (∀ j : Nat, (j : Int) < k1.toInt → g3 j = srt f12_placeOf k1.toInt.toNat j) → (v12_holes.toInt - k1.toInt).toNat < n5 → ∀ (H : Heap) (locs : List Loc), va_P D vwCl [O12 a12 r12 v12_keptMany v12_done v12_sheets v12_holes v12_worms v12_laidMany v12_wanted v12_orderMany v12_firstOrder v12_lines v12_marks v12_dots v12_madeIn v12_bound v12_places v12_maps v12_tapeMany v12_stories v12_base v12_at v12_ends v12_fault v12_opened v12_bodies v12_ran v12_ownKind v12_ownNumber, (cI κ (r12 8) 40 f12_sheetOf), (cI κ (r12 9) 40 f12_placeOf), (cI κ (r12 10) 40 g3), (cI κ (r12 11) 40 g5), (cI κ (r12 12) 40 f12_wormSheets)] H → va_D A [O12 a12 r12 v12_keptMany v12_done v12_sheets v12_holes v12_worms v12_laidMany v12_wanted v12_orderMany v12_firstOrder v12_lines v12_marks v12_dots v12_madeIn v12_bound v12_places v12_maps v12_tapeMany v12_stories v12_base v12_at v12_ends v12_fault v12_opened v12_bodies v12_ran v12_ownKind v12_ownNumber, (cI κ (r12 8) 40 f12_sheetOf), (cI κ (r12 9) 40 f12_placeOf), (cI κ (r12 10) 40 g3), (cI κ (r12 11) 40 g5), (cI κ (r12 12) 40 f12_wormSheets)] → va_S A s.heap H locs → ∀ ls : Array Slot, lv_has ls 8 [(4, .int k1), (3, .int k2), (0, .ref a12), (1, .int p1), (2, .int p2)] → W p l e ({ frames := 0, cells := 0, slots := 0, locals := 0 } : Room) s m args below meth c H locs 0 0 Q (F0 m 5 ls []) := by
    intro n5
    induction n5 with
    | zero =>
      intro k1 k2 g3 g5 h4 h6 h7 h8 h9 m10
      exact absurd m10 (Nat.not_lt_zero _)
    | succ n5 ih5 =>
      intro k1 k2 g3 g5 h4 h6 h7 h8 h9 m10 H locs hP hD hS ls hl
      have hso : ∀ j : Nat, (j : Int) < k1.toInt → g3 j = srt f12_placeOf k1.toInt.toNat j := by assumption
      refine lv_iload hx hb dX12_findWorms_5 (lv_at hl 0 rfl) ?_
      refine lv_aload_n hx hb dX12_findWorms_7 rfl (lv_at hl 2 rfl) ?_
      refine va_get (D := D) (ci := 12) (v := .int v12_holes) (C := RX12) (T := TX12) (N := 63) hx hb hts w1 hown hK.1 hP 0 rfl rfl 7 (by decide) w0 (fun _ h9 => h9) rfl dX12_findWorms_8 ?_
      refine lv_icmp_ge (tgt := 105) hx hb dX12_findWorms_11 (by decide) (fun c11 => ?_) (fun c11 => ?_)
      · have c11 := ci_le c11
        have hso2 : ∀ j : Nat, (j : Int) < k2.toInt → g3 j = srt f12_placeOf k2.toInt.toNat j := by have h8 : k2 = k1 := ci_inj (by omega); rw [h8]; exact hso
        refine lv_aload_n hx hb dX12_findWorms_105 rfl (lv_at hl 2 rfl) ?_
        refine lv_iconst (v := 0) hx hb dX12_findWorms_106 (by decide) ?_
        refine va_put (D := D) (ci := 12) (v := .int 0) (ty := .int) (C := RX12) (T := TX12) (N := 63) hx hb hts w1 tyX12 tyX12_ok nmX12 hown hK.1 hP hD hS 0 rfl rfl 13 (by decide) w2 (fun _ h9 => h9) rfl (by decide +kernel) rfl rfl (Nat.le_of_ble_eq_true rfl) dX12_findWorms_107 (fun H locs hP hD hS => ?_)
        obtain ⟨hP, hD⟩ : PD D A [O12 a12 r12 v12_keptMany v12_done v12_sheets v12_holes 0 v12_laidMany v12_wanted v12_orderMany v12_firstOrder v12_lines v12_marks v12_dots v12_madeIn v12_bound v12_places v12_maps v12_tapeMany v12_stories v12_base v12_at v12_ends v12_fault v12_opened v12_bodies v12_ran v12_ownKind v12_ownNumber, (cI κ (r12 8) 40 f12_sheetOf), (cI κ (r12 9) 40 f12_placeOf), (cI κ (r12 10) 40 g3), (cI κ (r12 11) 40 g5), (cI κ (r12 12) 40 f12_wormSheets)] H := ⟨hP, hD⟩
        have h12 : 0 ≤ (0 : Int32).toInt ∧ (0 : Int32).toInt ≤ 40 := by omega
        refine lv_iconst (v := 0) hx hb dX12_findWorms_110 (by decide) ?_
        refine lv_istore (lv' := [(4, .int 0), (3, .int k2), (0, .ref a12), (1, .int p1), (2, .int p2)]) hx hb dX12_findWorms_111 hl (by decide) rfl (fun ls hl => ?_)
        have lp113 : ∀ (n113 : Nat) (k13 : Int32) (v14 : Int32) (g15 : Nat → Int32) (g16 : Nat → Int32), (0 ≤ v14.toInt ∧ v14.toInt ≤ 40) → (v14.toInt ≤ k13.toInt) → (k13.toInt = 0 ∨ 1 ≤ v14.toInt) → (k13.toInt ≤ k2.toInt) → (WInv g3 f12_sheetOf f12_placeOf p1.toInt k13.toInt.toNat v14 g16 g15) → (k2.toInt - k13.toInt).toNat < n113 → ∀ (H : Heap) (locs : List Loc), va_P D vwCl [O12 a12 r12 v12_keptMany v12_done v12_sheets v12_holes v14 v12_laidMany v12_wanted v12_orderMany v12_firstOrder v12_lines v12_marks v12_dots v12_madeIn v12_bound v12_places v12_maps v12_tapeMany v12_stories v12_base v12_at v12_ends v12_fault v12_opened v12_bodies v12_ran v12_ownKind v12_ownNumber, (cI κ (r12 8) 40 f12_sheetOf), (cI κ (r12 9) 40 f12_placeOf), (cI κ (r12 10) 40 g3), (cI κ (r12 11) 40 g15), (cI κ (r12 12) 40 g16)] H → va_D A [O12 a12 r12 v12_keptMany v12_done v12_sheets v12_holes v14 v12_laidMany v12_wanted v12_orderMany v12_firstOrder v12_lines v12_marks v12_dots v12_madeIn v12_bound v12_places v12_maps v12_tapeMany v12_stories v12_base v12_at v12_ends v12_fault v12_opened v12_bodies v12_ran v12_ownKind v12_ownNumber, (cI κ (r12 8) 40 f12_sheetOf), (cI κ (r12 9) 40 f12_placeOf), (cI κ (r12 10) 40 g3), (cI κ (r12 11) 40 g15), (cI κ (r12 12) 40 g16)] → va_S A s.heap H locs → ∀ ls : Array Slot, lv_has ls 8 [(4, .int k13), (3, .int k2), (0, .ref a12), (1, .int p1), (2, .int p2)] → W p l e ({ frames := 0, cells := 0, slots := 0, locals := 0 } : Room) s m args below meth c H locs 0 0 Q (F0 m 113 ls []) := by
          intro n113
          induction n113 with
          | zero =>
            intro k13 v14 g15 g16 h17 h18 h19 h20 h21 m22
            exact absurd m22 (Nat.not_lt_zero _)
          | succ n113 ih113 =>
            intro k13 v14 g15 g16 h17 h18 h19 h20 h21 m22 H locs hP hD hS ls hl
            have hTW : WInv g3 f12_sheetOf f12_placeOf p1.toInt k13.toInt.toNat v14 g16 g15 := by assumption
            refine lv_iload hx hb dX12_findWorms_113 (lv_at hl 0 rfl) ?_
            refine lv_iload_n hx hb dX12_findWorms_115 rfl (lv_at hl 1 rfl) ?_
            refine lv_icmp_ge (tgt := 263) hx hb dX12_findWorms_116 (by decide) (fun c23 => ?_) (fun c23 => ?_)
            · have c23 := ci_le c23
              have hpo : (0 ≤ v14.toInt ∧ v14.toInt ≤ 40) ∧ (∀ j : Nat, 0 ≤ (g3 j).toInt ∧ (g3 j).toInt ≤ 39) ∧ (WInv (srt f12_placeOf v12_holes.toInt.toNat) f12_sheetOf f12_placeOf p1.toInt v12_holes.toInt.toNat v14 g16 g15) := ⟨h17, h4, (by refine wi_congr (s := g3) ?_ ?_; rw [← (show k13.toInt.toNat = v12_holes.toInt.toNat from by omega)]; assumption; intro j9 h9; rw [← (show k2.toInt.toNat = v12_holes.toInt.toNat from by omega)]; exact hso2 j9 (by omega))⟩
              exact ret _ _ _ _ (v14, g3, g15, g16) dX12_findWorms_263 hpo hP hD hS
            have c23 := ci_nle c23
            refine lv_aload_n hx hb dX12_findWorms_119 rfl (lv_at hl 2 rfl) ?_
            refine va_get (D := D) (ci := 12) (v := .ref (r12 10)) (C := RX12) (T := TX12) (N := 63) hx hb hts w1 hown hK.1 hP 0 rfl rfl 10 (by decide) w3 (fun _ h9 => h9) rfl dX12_findWorms_120 ?_
            refine lv_iload hx hb dX12_findWorms_123 (lv_at hl 0 rfl) ?_
            refine va_iald hx hb hK.1 hP 3 1 rfl rfl (i := k13) (ix (by omega) (by omega)) dX12_findWorms_125 ?_
            refine lv_topi (fun x24 e25 => ?_)
            have h26 : 0 ≤ x24.toInt ∧ x24.toInt ≤ 39 := by rw [e25]; exact h4 _
            have hho := e25
            refine lv_istore (lv' := [(5, .int x24), (4, .int k13), (3, .int k2), (0, .ref a12), (1, .int p1), (2, .int p2)]) hx hb dX12_findWorms_126 hl (by decide) rfl (fun ls hl => ?_)
            refine lv_iconst (v := 1) hx hb dX12_findWorms_128 (by decide) ?_
            refine lv_aload_n hx hb dX12_findWorms_129 rfl (lv_at hl 3 rfl) ?_
            refine va_get (D := D) (ci := 12) (v := .ref (r12 8)) (C := RX12) (T := TX12) (N := 63) hx hb hts w1 hown hK.1 hP 0 rfl rfl 8 (by decide) w4 (fun _ h9 => h9) rfl dX12_findWorms_130 ?_
            refine lv_iload hx hb dX12_findWorms_133 (lv_at hl 0 rfl) ?_
            refine va_iald hx hb hK.1 hP 1 1 rfl rfl (i := x24) (ix (by omega) (by omega)) dX12_findWorms_135 ?_
            refine lv_topi (fun x27 e28 => ?_)
            have h29 : 0 ≤ x27.toInt ∧ x27.toInt ≤ 7 := by rw [e28]; exact hf12_sheetOf _
            have hx9 := e28
            have hx8 : 0 ≤ (f12_sheetOf (g3 k13.toNatClampNeg).toNatClampNeg).toInt := by rw [← hho, ← hx9]; omega
            refine lv_ishl hx hb dX12_findWorms_136 ?_
            refine lv_topi (fun x30 e31 => ?_)
            have hbt : x30 = bitW (f12_sheetOf (g3 k13.toNatClampNeg).toNatClampNeg) := by unfold bitW; rw [e31, hx9, hho]
            refine lv_istore (lv' := [(6, .int x30), (5, .int x24), (4, .int k13), (3, .int k2), (0, .ref a12), (1, .int p1), (2, .int p2)]) hx hb dX12_findWorms_137 hl (by decide) rfl (fun ls hl => ?_)
            refine lv_iload hx hb dX12_findWorms_139 (lv_at hl 2 rfl) ?_
            refine lv_if_le (tgt := 200) hx hb dX12_findWorms_141 (by decide) (fun c32 => ?_) (fun c32 => ?_)
            · have c32 := ci_le c32
              refine lv_iconst (v := 0) hx hb dX12_findWorms_200 (by decide) ?_
              refine lv_istore (lv' := [(7, .int 0), (6, .int x30), (5, .int x24), (4, .int k13), (3, .int k2), (0, .ref a12), (1, .int p1), (2, .int p2)]) hx hb dX12_findWorms_201 hl (by decide) rfl (fun ls hl => ?_)
              refine lv_iload hx hb dX12_findWorms_203 (lv_at hl 0 rfl) ?_
              refine lv_if_ne (tgt := 228) hx hb dX12_findWorms_205 (by decide) (fun c33 => ?_) (fun c33 => ?_)
              · have c33 := ci_ne c33
                exfalso
                omega
              have c33 := ci_eq c33
              have hnw : k13.toInt = 0 ∨ p1.toInt < (f12_placeOf (g3 k13.toNatClampNeg).toNatClampNeg).toInt - (f12_placeOf (g3 (k13.toInt - 1).toNat).toNatClampNeg).toInt ∨ (0 < k13.toInt ∧ (g16 (v14.toInt - 1).toNat &&& x30).toInt ≠ 0) := by first | exact Or.inl (by omega) | exact Or.inr (Or.inl (by omega)) | exact Or.inr (Or.inr ⟨by omega, by omega⟩)
              refine lv_aload_n hx hb dX12_findWorms_208 rfl (lv_at hl 5 rfl) ?_
              refine va_get (D := D) (ci := 12) (v := .ref (r12 12)) (C := RX12) (T := TX12) (N := 63) hx hb hts w1 hown hK.1 hP 0 rfl rfl 12 (by decide) w5 (fun _ h9 => h9) rfl dX12_findWorms_209 ?_
              refine lv_aload_n hx hb dX12_findWorms_212 rfl (lv_at hl 5 rfl) ?_
              refine va_get (D := D) (ci := 12) (v := .int v14) (C := RX12) (T := TX12) (N := 63) hx hb hts w1 hown hK.1 hP 0 rfl rfl 13 (by decide) w2 (fun _ h9 => h9) rfl dX12_findWorms_213 ?_
              refine lv_iconst (v := 0) hx hb dX12_findWorms_216 (by decide) ?_
              refine va_iast hx hb hK.1 hP hD hS 5 1 rfl rfl (i := v14) (ix (by omega) (by omega)) dX12_findWorms_217 (fun H locs hP hD hS => ?_)
              obtain ⟨g34, e35⟩ : ∃ y : Nat → Int32, y = upd g16 v14.toNatClampNeg 0 := ⟨_, rfl⟩
              rw [← e35] at hP hD
              obtain ⟨hP, hD⟩ : PD D A [O12 a12 r12 v12_keptMany v12_done v12_sheets v12_holes v14 v12_laidMany v12_wanted v12_orderMany v12_firstOrder v12_lines v12_marks v12_dots v12_madeIn v12_bound v12_places v12_maps v12_tapeMany v12_stories v12_base v12_at v12_ends v12_fault v12_opened v12_bodies v12_ran v12_ownKind v12_ownNumber, (cI κ (r12 8) 40 f12_sheetOf), (cI κ (r12 9) 40 f12_placeOf), (cI κ (r12 10) 40 g3), (cI κ (r12 11) 40 g15), (cI κ (r12 12) 40 g34)] H := ⟨hP, hD⟩
              have hs1 := e35
              refine lv_aload_n hx hb dX12_findWorms_218 rfl (lv_at hl 5 rfl) ?_
              refine lv_dup hx hb dX12_findWorms_219 rfl ?_
              refine va_get (D := D) (ci := 12) (v := .int v14) (C := RX12) (T := TX12) (N := 63) hx hb hts w1 hown hK.1 hP 0 rfl rfl 13 (by decide) w2 (fun _ h9 => h9) rfl dX12_findWorms_220 ?_
              refine lv_iconst (v := 1) hx hb dX12_findWorms_223 (by decide) ?_
              refine lv_iadd hx hb dX12_findWorms_224 ?_
              refine lv_topi (fun x36 e37 => ?_)
              try have h38 : x36.toInt = v14.toInt + (1 : Int32).toInt := ci_add e37 (by omega) (by omega)
              refine va_put (D := D) (ci := 12) (v := .int x36) (ty := .int) (C := RX12) (T := TX12) (N := 63) hx hb hts w1 tyX12 tyX12_ok nmX12 hown hK.1 hP hD hS 0 rfl rfl 13 (by decide) w2 (fun _ h9 => h9) rfl (by decide +kernel) rfl rfl (Nat.le_of_ble_eq_true rfl) dX12_findWorms_225 (fun H locs hP hD hS => ?_)
              obtain ⟨hP, hD⟩ : PD D A [O12 a12 r12 v12_keptMany v12_done v12_sheets v12_holes x36 v12_laidMany v12_wanted v12_orderMany v12_firstOrder v12_lines v12_marks v12_dots v12_madeIn v12_bound v12_places v12_maps v12_tapeMany v12_stories v12_base v12_at v12_ends v12_fault v12_opened v12_bodies v12_ran v12_ownKind v12_ownNumber, (cI κ (r12 8) 40 f12_sheetOf), (cI κ (r12 9) 40 f12_placeOf), (cI κ (r12 10) 40 g3), (cI κ (r12 11) 40 g15), (cI κ (r12 12) 40 g34)] H := ⟨hP, hD⟩
              have h39 : 0 ≤ x36.toInt ∧ x36.toInt ≤ 40 := by omega
              refine lv_aload_n hx hb dX12_findWorms_228 rfl (lv_at hl 5 rfl) ?_
              refine va_get (D := D) (ci := 12) (v := .ref (r12 12)) (C := RX12) (T := TX12) (N := 63) hx hb hts w1 hown hK.1 hP 0 rfl rfl 12 (by decide) w5 (fun _ h9 => h9) rfl dX12_findWorms_229 ?_
              refine lv_aload_n hx hb dX12_findWorms_232 rfl (lv_at hl 5 rfl) ?_
              refine va_get (D := D) (ci := 12) (v := .int x36) (C := RX12) (T := TX12) (N := 63) hx hb hts w1 hown hK.1 hP 0 rfl rfl 13 (by decide) w2 (fun _ h9 => h9) rfl dX12_findWorms_233 ?_
              refine lv_iconst (v := 1) hx hb dX12_findWorms_236 (by decide) ?_
              refine lv_isub hx hb dX12_findWorms_237 ?_
              refine lv_topi (fun x40 e41 => ?_)
              try have h42 : x40.toInt = x36.toInt - (1 : Int32).toInt := ci_sub e41 (by omega) (by omega)
              refine lv_dup2_11 hx hb dX12_findWorms_238 rfl rfl ?_
              refine va_iald hx hb hK.1 hP 5 1 rfl rfl (i := x40) (ix (by omega) (by omega)) dX12_findWorms_239 ?_
              refine lv_topi (fun x43 e44 => ?_)
              have hy9 := e44
              try rw [hs1] at hy9
              refine lv_iload hx hb dX12_findWorms_240 (lv_at hl 1 rfl) ?_
              refine lv_ior hx hb dX12_findWorms_242 ?_
              refine lv_topi (fun x45 e46 => ?_)
              have hz9 := e46
              refine va_iast hx hb hK.1 hP hD hS 5 1 rfl rfl (i := x40) (ix (by omega) (by omega)) dX12_findWorms_243 (fun H locs hP hD hS => ?_)
              obtain ⟨g47, e48⟩ : ∃ y : Nat → Int32, y = upd g34 x40.toNatClampNeg x45 := ⟨_, rfl⟩
              rw [← e48] at hP hD
              obtain ⟨hP, hD⟩ : PD D A [O12 a12 r12 v12_keptMany v12_done v12_sheets v12_holes x36 v12_laidMany v12_wanted v12_orderMany v12_firstOrder v12_lines v12_marks v12_dots v12_madeIn v12_bound v12_places v12_maps v12_tapeMany v12_stories v12_base v12_at v12_ends v12_fault v12_opened v12_bodies v12_ran v12_ownKind v12_ownNumber, (cI κ (r12 8) 40 f12_sheetOf), (cI κ (r12 9) 40 f12_placeOf), (cI κ (r12 10) 40 g3), (cI κ (r12 11) 40 g15), (cI κ (r12 12) 40 g47)] H := ⟨hP, hD⟩
              have hs2 := e48
              try rw [hs1] at hs2
              refine lv_aload_n hx hb dX12_findWorms_244 rfl (lv_at hl 5 rfl) ?_
              refine va_get (D := D) (ci := 12) (v := .ref (r12 11)) (C := RX12) (T := TX12) (N := 63) hx hb hts w1 hown hK.1 hP 0 rfl rfl 11 (by decide) w6 (fun _ h9 => h9) rfl dX12_findWorms_245 ?_
              refine lv_iload hx hb dX12_findWorms_248 (lv_at hl 2 rfl) ?_
              refine lv_aload_n hx hb dX12_findWorms_250 rfl (lv_at hl 5 rfl) ?_
              refine va_get (D := D) (ci := 12) (v := .int x36) (C := RX12) (T := TX12) (N := 63) hx hb hts w1 hown hK.1 hP 0 rfl rfl 13 (by decide) w2 (fun _ h9 => h9) rfl dX12_findWorms_251 ?_
              refine lv_iconst (v := 1) hx hb dX12_findWorms_254 (by decide) ?_
              refine lv_isub hx hb dX12_findWorms_255 ?_
              refine lv_topi (fun x49 e50 => ?_)
              try have h51 : x49.toInt = x36.toInt - (1 : Int32).toInt := ci_sub e50 (by omega) (by omega)
              refine va_iast hx hb hK.1 hP hD hS 4 1 rfl rfl (i := x24) (ix (by omega) (by omega)) dX12_findWorms_256 (fun H locs hP hD hS => ?_)
              obtain ⟨g52, e53⟩ : ∃ y : Nat → Int32, y = upd g15 x24.toNatClampNeg x49 := ⟨_, rfl⟩
              rw [← e53] at hP hD
              obtain ⟨hP, hD⟩ : PD D A [O12 a12 r12 v12_keptMany v12_done v12_sheets v12_holes x36 v12_laidMany v12_wanted v12_orderMany v12_firstOrder v12_lines v12_marks v12_dots v12_madeIn v12_bound v12_places v12_maps v12_tapeMany v12_stories v12_base v12_at v12_ends v12_fault v12_opened v12_bodies v12_ran v12_ownKind v12_ownNumber, (cI κ (r12 8) 40 f12_sheetOf), (cI κ (r12 9) 40 f12_placeOf), (cI κ (r12 10) 40 g3), (cI κ (r12 11) 40 g52), (cI κ (r12 12) 40 g47)] H := ⟨hP, hD⟩
              have hs3 := e53
              obtain ⟨x54, e55⟩ : ∃ y : Int32, y = k13 + 1 := ⟨_, rfl⟩
              refine lv_iinc (v := x54) (lv' := [(4, .int x54), (7, .int 0), (6, .int x30), (5, .int x24), (3, .int k2), (0, .ref a12), (1, .int p1), (2, .int p2)]) hx hb dX12_findWorms_257 hl (k := 3) rfl (by rw [e55]; rfl) (by decide) rfl (fun ls hl => ?_)
              try have h56 : x54.toInt = k13.toInt + (1 : Int32).toInt := ci_add e55 (by omega) (by omega)
              refine lv_goto (tgt := 113) hx hb dX12_findWorms_260 (by decide) ?_
              exact ih113 x54 x36 g52 g47 h39 (by omega) (by omega) (by omega) (by first | exact wi_start (by omega) (by omega) | exact wi_new hTW (by omega) (by omega) (by omega) hnw (by omega) hs2 (by omega) hy9 hz9 hbt hs3 (by rw [hho]) (by omega) | exact wi_old hTW (by omega) (by omega) (by omega) (by omega) (by omega) (by omega) hs2 (by omega) hy9 hz9 hbt hs3 (by rw [hho]) (by omega)) (by omega) _ _ hP hD hS _ (lv_sub hl [0, 4, 5, 6, 7] rfl)
            have c32 := ci_nle c32
            refine lv_aload_n hx hb dX12_findWorms_144 rfl (lv_at hl 4 rfl) ?_
            refine va_get (D := D) (ci := 12) (v := .ref (r12 9)) (C := RX12) (T := TX12) (N := 63) hx hb hts w1 hown hK.1 hP 0 rfl rfl 9 (by decide) w7 (fun _ h9 => h9) rfl dX12_findWorms_145 ?_
            refine lv_iload hx hb dX12_findWorms_148 (lv_at hl 1 rfl) ?_
            refine va_iald hx hb hK.1 hP 2 1 rfl rfl (i := x24) (ix (by omega) (by omega)) dX12_findWorms_150 ?_
            refine lv_topi (fun x57 e58 => ?_)
            have h59 : 0 ≤ x57.toInt ∧ x57.toInt ≤ 999 := by rw [e58]; exact hf12_placeOf _
            have hp1 : x57.toInt = (f12_placeOf (g3 k13.toNatClampNeg).toNatClampNeg).toInt := by rw [e58, hho]
            refine lv_aload_n hx hb dX12_findWorms_151 rfl (lv_at hl 4 rfl) ?_
            refine va_get (D := D) (ci := 12) (v := .ref (r12 9)) (C := RX12) (T := TX12) (N := 63) hx hb hts w1 hown hK.1 hP 0 rfl rfl 9 (by decide) w7 (fun _ h9 => h9) rfl dX12_findWorms_152 ?_
            refine lv_aload_n hx hb dX12_findWorms_155 rfl (lv_at hl 4 rfl) ?_
            refine va_get (D := D) (ci := 12) (v := .ref (r12 10)) (C := RX12) (T := TX12) (N := 63) hx hb hts w1 hown hK.1 hP 0 rfl rfl 10 (by decide) w3 (fun _ h9 => h9) rfl dX12_findWorms_156 ?_
            refine lv_iload hx hb dX12_findWorms_159 (lv_at hl 2 rfl) ?_
            refine lv_if_le (tgt := 171) hx hb dX12_findWorms_161 (by decide) (fun c60 => ?_) (fun c60 => ?_)
            · have c60 := ci_le c60
              exfalso
              omega
            have c60 := ci_nle c60
            refine lv_iload hx hb dX12_findWorms_164 (lv_at hl 2 rfl) ?_
            refine lv_iconst (v := 1) hx hb dX12_findWorms_166 (by decide) ?_
            refine lv_isub hx hb dX12_findWorms_167 ?_
            refine lv_topi (fun x61 e62 => ?_)
            try have h63 : x61.toInt = k13.toInt - (1 : Int32).toInt := ci_sub e62 (by omega) (by omega)
            refine lv_goto (tgt := 172) hx hb dX12_findWorms_168 (by decide) ?_
            refine va_iald hx hb hK.1 hP 3 1 rfl rfl (i := x61) (ix (by omega) (by omega)) dX12_findWorms_172 ?_
            refine lv_topi (fun x64 e65 => ?_)
            have h66 : 0 ≤ x64.toInt ∧ x64.toInt ≤ 39 := by rw [e65]; exact h4 _
            have hta9 := ld_at (k := k13) e65 (by omega) (by omega)
            refine va_iald hx hb hK.1 hP 2 1 rfl rfl (i := x64) (ix (by omega) (by omega)) dX12_findWorms_173 ?_
            refine lv_topi (fun x67 e68 => ?_)
            have h69 : 0 ≤ x67.toInt ∧ x67.toInt ≤ 999 := by rw [e68]; exact hf12_placeOf _
            have hp2 : x67.toInt = (f12_placeOf (g3 (k13.toInt - 1).toNat).toNatClampNeg).toInt := by rw [e68, hta9]
            refine lv_isub hx hb dX12_findWorms_174 ?_
            refine lv_topi (fun x70 e71 => ?_)
            try have h72 : x70.toInt = x57.toInt - x67.toInt := ci_sub e71 (by omega) (by omega)
            refine lv_iload_n hx hb dX12_findWorms_175 rfl (lv_at hl 5 rfl) ?_
            refine lv_icmp_gt (tgt := 200) hx hb dX12_findWorms_176 (by decide) (fun c73 => ?_) (fun c73 => ?_)
            · have c73 := ci_lt c73
              refine lv_iconst (v := 0) hx hb dX12_findWorms_200 (by decide) ?_
              refine lv_istore (lv' := [(7, .int 0), (6, .int x30), (5, .int x24), (4, .int k13), (3, .int k2), (0, .ref a12), (1, .int p1), (2, .int p2)]) hx hb dX12_findWorms_201 hl (by decide) rfl (fun ls hl => ?_)
              refine lv_iload hx hb dX12_findWorms_203 (lv_at hl 0 rfl) ?_
              refine lv_if_ne (tgt := 228) hx hb dX12_findWorms_205 (by decide) (fun c74 => ?_) (fun c74 => ?_)
              · have c74 := ci_ne c74
                exfalso
                omega
              have c74 := ci_eq c74
              have hnw : k13.toInt = 0 ∨ p1.toInt < (f12_placeOf (g3 k13.toNatClampNeg).toNatClampNeg).toInt - (f12_placeOf (g3 (k13.toInt - 1).toNat).toNatClampNeg).toInt ∨ (0 < k13.toInt ∧ (g16 (v14.toInt - 1).toNat &&& x30).toInt ≠ 0) := by first | exact Or.inl (by omega) | exact Or.inr (Or.inl (by omega)) | exact Or.inr (Or.inr ⟨by omega, by omega⟩)
              refine lv_aload_n hx hb dX12_findWorms_208 rfl (lv_at hl 5 rfl) ?_
              refine va_get (D := D) (ci := 12) (v := .ref (r12 12)) (C := RX12) (T := TX12) (N := 63) hx hb hts w1 hown hK.1 hP 0 rfl rfl 12 (by decide) w5 (fun _ h9 => h9) rfl dX12_findWorms_209 ?_
              refine lv_aload_n hx hb dX12_findWorms_212 rfl (lv_at hl 5 rfl) ?_
              refine va_get (D := D) (ci := 12) (v := .int v14) (C := RX12) (T := TX12) (N := 63) hx hb hts w1 hown hK.1 hP 0 rfl rfl 13 (by decide) w2 (fun _ h9 => h9) rfl dX12_findWorms_213 ?_
              refine lv_iconst (v := 0) hx hb dX12_findWorms_216 (by decide) ?_
              refine va_iast hx hb hK.1 hP hD hS 5 1 rfl rfl (i := v14) (ix (by omega) (by omega)) dX12_findWorms_217 (fun H locs hP hD hS => ?_)
              obtain ⟨g75, e76⟩ : ∃ y : Nat → Int32, y = upd g16 v14.toNatClampNeg 0 := ⟨_, rfl⟩
              rw [← e76] at hP hD
              obtain ⟨hP, hD⟩ : PD D A [O12 a12 r12 v12_keptMany v12_done v12_sheets v12_holes v14 v12_laidMany v12_wanted v12_orderMany v12_firstOrder v12_lines v12_marks v12_dots v12_madeIn v12_bound v12_places v12_maps v12_tapeMany v12_stories v12_base v12_at v12_ends v12_fault v12_opened v12_bodies v12_ran v12_ownKind v12_ownNumber, (cI κ (r12 8) 40 f12_sheetOf), (cI κ (r12 9) 40 f12_placeOf), (cI κ (r12 10) 40 g3), (cI κ (r12 11) 40 g15), (cI κ (r12 12) 40 g75)] H := ⟨hP, hD⟩
              have hs1 := e76
              refine lv_aload_n hx hb dX12_findWorms_218 rfl (lv_at hl 5 rfl) ?_
              refine lv_dup hx hb dX12_findWorms_219 rfl ?_
              refine va_get (D := D) (ci := 12) (v := .int v14) (C := RX12) (T := TX12) (N := 63) hx hb hts w1 hown hK.1 hP 0 rfl rfl 13 (by decide) w2 (fun _ h9 => h9) rfl dX12_findWorms_220 ?_
              refine lv_iconst (v := 1) hx hb dX12_findWorms_223 (by decide) ?_
              refine lv_iadd hx hb dX12_findWorms_224 ?_
              refine lv_topi (fun x77 e78 => ?_)
              try have h79 : x77.toInt = v14.toInt + (1 : Int32).toInt := ci_add e78 (by omega) (by omega)
              refine va_put (D := D) (ci := 12) (v := .int x77) (ty := .int) (C := RX12) (T := TX12) (N := 63) hx hb hts w1 tyX12 tyX12_ok nmX12 hown hK.1 hP hD hS 0 rfl rfl 13 (by decide) w2 (fun _ h9 => h9) rfl (by decide +kernel) rfl rfl (Nat.le_of_ble_eq_true rfl) dX12_findWorms_225 (fun H locs hP hD hS => ?_)
              obtain ⟨hP, hD⟩ : PD D A [O12 a12 r12 v12_keptMany v12_done v12_sheets v12_holes x77 v12_laidMany v12_wanted v12_orderMany v12_firstOrder v12_lines v12_marks v12_dots v12_madeIn v12_bound v12_places v12_maps v12_tapeMany v12_stories v12_base v12_at v12_ends v12_fault v12_opened v12_bodies v12_ran v12_ownKind v12_ownNumber, (cI κ (r12 8) 40 f12_sheetOf), (cI κ (r12 9) 40 f12_placeOf), (cI κ (r12 10) 40 g3), (cI κ (r12 11) 40 g15), (cI κ (r12 12) 40 g75)] H := ⟨hP, hD⟩
              have h80 : 0 ≤ x77.toInt ∧ x77.toInt ≤ 40 := by omega
              refine lv_aload_n hx hb dX12_findWorms_228 rfl (lv_at hl 5 rfl) ?_
              refine va_get (D := D) (ci := 12) (v := .ref (r12 12)) (C := RX12) (T := TX12) (N := 63) hx hb hts w1 hown hK.1 hP 0 rfl rfl 12 (by decide) w5 (fun _ h9 => h9) rfl dX12_findWorms_229 ?_
              refine lv_aload_n hx hb dX12_findWorms_232 rfl (lv_at hl 5 rfl) ?_
              refine va_get (D := D) (ci := 12) (v := .int x77) (C := RX12) (T := TX12) (N := 63) hx hb hts w1 hown hK.1 hP 0 rfl rfl 13 (by decide) w2 (fun _ h9 => h9) rfl dX12_findWorms_233 ?_
              refine lv_iconst (v := 1) hx hb dX12_findWorms_236 (by decide) ?_
              refine lv_isub hx hb dX12_findWorms_237 ?_
              refine lv_topi (fun x81 e82 => ?_)
              try have h83 : x81.toInt = x77.toInt - (1 : Int32).toInt := ci_sub e82 (by omega) (by omega)
              refine lv_dup2_11 hx hb dX12_findWorms_238 rfl rfl ?_
              refine va_iald hx hb hK.1 hP 5 1 rfl rfl (i := x81) (ix (by omega) (by omega)) dX12_findWorms_239 ?_
              refine lv_topi (fun x84 e85 => ?_)
              have hy9 := e85
              try rw [hs1] at hy9
              refine lv_iload hx hb dX12_findWorms_240 (lv_at hl 1 rfl) ?_
              refine lv_ior hx hb dX12_findWorms_242 ?_
              refine lv_topi (fun x86 e87 => ?_)
              have hz9 := e87
              refine va_iast hx hb hK.1 hP hD hS 5 1 rfl rfl (i := x81) (ix (by omega) (by omega)) dX12_findWorms_243 (fun H locs hP hD hS => ?_)
              obtain ⟨g88, e89⟩ : ∃ y : Nat → Int32, y = upd g75 x81.toNatClampNeg x86 := ⟨_, rfl⟩
              rw [← e89] at hP hD
              obtain ⟨hP, hD⟩ : PD D A [O12 a12 r12 v12_keptMany v12_done v12_sheets v12_holes x77 v12_laidMany v12_wanted v12_orderMany v12_firstOrder v12_lines v12_marks v12_dots v12_madeIn v12_bound v12_places v12_maps v12_tapeMany v12_stories v12_base v12_at v12_ends v12_fault v12_opened v12_bodies v12_ran v12_ownKind v12_ownNumber, (cI κ (r12 8) 40 f12_sheetOf), (cI κ (r12 9) 40 f12_placeOf), (cI κ (r12 10) 40 g3), (cI κ (r12 11) 40 g15), (cI κ (r12 12) 40 g88)] H := ⟨hP, hD⟩
              have hs2 := e89
              try rw [hs1] at hs2
              refine lv_aload_n hx hb dX12_findWorms_244 rfl (lv_at hl 5 rfl) ?_
              refine va_get (D := D) (ci := 12) (v := .ref (r12 11)) (C := RX12) (T := TX12) (N := 63) hx hb hts w1 hown hK.1 hP 0 rfl rfl 11 (by decide) w6 (fun _ h9 => h9) rfl dX12_findWorms_245 ?_
              refine lv_iload hx hb dX12_findWorms_248 (lv_at hl 2 rfl) ?_
              refine lv_aload_n hx hb dX12_findWorms_250 rfl (lv_at hl 5 rfl) ?_
              refine va_get (D := D) (ci := 12) (v := .int x77) (C := RX12) (T := TX12) (N := 63) hx hb hts w1 hown hK.1 hP 0 rfl rfl 13 (by decide) w2 (fun _ h9 => h9) rfl dX12_findWorms_251 ?_
              refine lv_iconst (v := 1) hx hb dX12_findWorms_254 (by decide) ?_
              refine lv_isub hx hb dX12_findWorms_255 ?_
              refine lv_topi (fun x90 e91 => ?_)
              try have h92 : x90.toInt = x77.toInt - (1 : Int32).toInt := ci_sub e91 (by omega) (by omega)
              refine va_iast hx hb hK.1 hP hD hS 4 1 rfl rfl (i := x24) (ix (by omega) (by omega)) dX12_findWorms_256 (fun H locs hP hD hS => ?_)
              obtain ⟨g93, e94⟩ : ∃ y : Nat → Int32, y = upd g15 x24.toNatClampNeg x90 := ⟨_, rfl⟩
              rw [← e94] at hP hD
              obtain ⟨hP, hD⟩ : PD D A [O12 a12 r12 v12_keptMany v12_done v12_sheets v12_holes x77 v12_laidMany v12_wanted v12_orderMany v12_firstOrder v12_lines v12_marks v12_dots v12_madeIn v12_bound v12_places v12_maps v12_tapeMany v12_stories v12_base v12_at v12_ends v12_fault v12_opened v12_bodies v12_ran v12_ownKind v12_ownNumber, (cI κ (r12 8) 40 f12_sheetOf), (cI κ (r12 9) 40 f12_placeOf), (cI κ (r12 10) 40 g3), (cI κ (r12 11) 40 g93), (cI κ (r12 12) 40 g88)] H := ⟨hP, hD⟩
              have hs3 := e94
              obtain ⟨x95, e96⟩ : ∃ y : Int32, y = k13 + 1 := ⟨_, rfl⟩
              refine lv_iinc (v := x95) (lv' := [(4, .int x95), (7, .int 0), (6, .int x30), (5, .int x24), (3, .int k2), (0, .ref a12), (1, .int p1), (2, .int p2)]) hx hb dX12_findWorms_257 hl (k := 3) rfl (by rw [e96]; rfl) (by decide) rfl (fun ls hl => ?_)
              try have h97 : x95.toInt = k13.toInt + (1 : Int32).toInt := ci_add e96 (by omega) (by omega)
              refine lv_goto (tgt := 113) hx hb dX12_findWorms_260 (by decide) ?_
              exact ih113 x95 x77 g93 g88 h80 (by omega) (by omega) (by omega) (by first | exact wi_start (by omega) (by omega) | exact wi_new hTW (by omega) (by omega) (by omega) hnw (by omega) hs2 (by omega) hy9 hz9 hbt hs3 (by rw [hho]) (by omega) | exact wi_old hTW (by omega) (by omega) (by omega) (by omega) (by omega) (by omega) hs2 (by omega) hy9 hz9 hbt hs3 (by rw [hho]) (by omega)) (by omega) _ _ hP hD hS _ (lv_sub hl [0, 4, 5, 6, 7] rfl)
            have c73 := ci_nlt c73
            refine lv_aload_n hx hb dX12_findWorms_179 rfl (lv_at hl 4 rfl) ?_
            refine va_get (D := D) (ci := 12) (v := .ref (r12 12)) (C := RX12) (T := TX12) (N := 63) hx hb hts w1 hown hK.1 hP 0 rfl rfl 12 (by decide) w5 (fun _ h9 => h9) rfl dX12_findWorms_180 ?_
            refine lv_aload_n hx hb dX12_findWorms_183 rfl (lv_at hl 4 rfl) ?_
            refine va_get (D := D) (ci := 12) (v := .int v14) (C := RX12) (T := TX12) (N := 63) hx hb hts w1 hown hK.1 hP 0 rfl rfl 13 (by decide) w2 (fun _ h9 => h9) rfl dX12_findWorms_184 ?_
            refine lv_iconst (v := 1) hx hb dX12_findWorms_187 (by decide) ?_
            refine lv_isub hx hb dX12_findWorms_188 ?_
            refine lv_topi (fun x98 e99 => ?_)
            try have h100 : x98.toInt = v14.toInt - (1 : Int32).toInt := ci_sub e99 (by omega) (by omega)
            refine va_iald hx hb hK.1 hP 5 1 rfl rfl (i := x98) (ix (by omega) (by omega)) dX12_findWorms_189 ?_
            refine lv_topi (fun x101 e102 => ?_)
            have hg1 := ld_at (k := v14) e102 (by omega) (by omega)
            refine lv_iload hx hb dX12_findWorms_190 (lv_at hl 0 rfl) ?_
            refine lv_iand hx hb dX12_findWorms_192 ?_
            refine lv_topi (fun x103 e104 => ?_)
            have hg2 : x103.toInt = (g16 (v14.toInt - 1).toNat &&& x30).toInt := by rw [e104, hg1]
            refine lv_if_ne (tgt := 200) hx hb dX12_findWorms_193 (by decide) (fun c105 => ?_) (fun c105 => ?_)
            · have c105 := ci_ne c105
              refine lv_iconst (v := 0) hx hb dX12_findWorms_200 (by decide) ?_
              refine lv_istore (lv' := [(7, .int 0), (6, .int x30), (5, .int x24), (4, .int k13), (3, .int k2), (0, .ref a12), (1, .int p1), (2, .int p2)]) hx hb dX12_findWorms_201 hl (by decide) rfl (fun ls hl => ?_)
              refine lv_iload hx hb dX12_findWorms_203 (lv_at hl 0 rfl) ?_
              refine lv_if_ne (tgt := 228) hx hb dX12_findWorms_205 (by decide) (fun c106 => ?_) (fun c106 => ?_)
              · have c106 := ci_ne c106
                exfalso
                omega
              have c106 := ci_eq c106
              have hnw : k13.toInt = 0 ∨ p1.toInt < (f12_placeOf (g3 k13.toNatClampNeg).toNatClampNeg).toInt - (f12_placeOf (g3 (k13.toInt - 1).toNat).toNatClampNeg).toInt ∨ (0 < k13.toInt ∧ (g16 (v14.toInt - 1).toNat &&& x30).toInt ≠ 0) := by first | exact Or.inl (by omega) | exact Or.inr (Or.inl (by omega)) | exact Or.inr (Or.inr ⟨by omega, by omega⟩)
              refine lv_aload_n hx hb dX12_findWorms_208 rfl (lv_at hl 5 rfl) ?_
              refine va_get (D := D) (ci := 12) (v := .ref (r12 12)) (C := RX12) (T := TX12) (N := 63) hx hb hts w1 hown hK.1 hP 0 rfl rfl 12 (by decide) w5 (fun _ h9 => h9) rfl dX12_findWorms_209 ?_
              refine lv_aload_n hx hb dX12_findWorms_212 rfl (lv_at hl 5 rfl) ?_
              refine va_get (D := D) (ci := 12) (v := .int v14) (C := RX12) (T := TX12) (N := 63) hx hb hts w1 hown hK.1 hP 0 rfl rfl 13 (by decide) w2 (fun _ h9 => h9) rfl dX12_findWorms_213 ?_
              refine lv_iconst (v := 0) hx hb dX12_findWorms_216 (by decide) ?_
              refine va_iast hx hb hK.1 hP hD hS 5 1 rfl rfl (i := v14) (ix (by omega) (by omega)) dX12_findWorms_217 (fun H locs hP hD hS => ?_)
              obtain ⟨g107, e108⟩ : ∃ y : Nat → Int32, y = upd g16 v14.toNatClampNeg 0 := ⟨_, rfl⟩
              rw [← e108] at hP hD
              obtain ⟨hP, hD⟩ : PD D A [O12 a12 r12 v12_keptMany v12_done v12_sheets v12_holes v14 v12_laidMany v12_wanted v12_orderMany v12_firstOrder v12_lines v12_marks v12_dots v12_madeIn v12_bound v12_places v12_maps v12_tapeMany v12_stories v12_base v12_at v12_ends v12_fault v12_opened v12_bodies v12_ran v12_ownKind v12_ownNumber, (cI κ (r12 8) 40 f12_sheetOf), (cI κ (r12 9) 40 f12_placeOf), (cI κ (r12 10) 40 g3), (cI κ (r12 11) 40 g15), (cI κ (r12 12) 40 g107)] H := ⟨hP, hD⟩
              have hs1 := e108
              refine lv_aload_n hx hb dX12_findWorms_218 rfl (lv_at hl 5 rfl) ?_
              refine lv_dup hx hb dX12_findWorms_219 rfl ?_
              refine va_get (D := D) (ci := 12) (v := .int v14) (C := RX12) (T := TX12) (N := 63) hx hb hts w1 hown hK.1 hP 0 rfl rfl 13 (by decide) w2 (fun _ h9 => h9) rfl dX12_findWorms_220 ?_
              refine lv_iconst (v := 1) hx hb dX12_findWorms_223 (by decide) ?_
              refine lv_iadd hx hb dX12_findWorms_224 ?_
              refine lv_topi (fun x109 e110 => ?_)
              try have h111 : x109.toInt = v14.toInt + (1 : Int32).toInt := ci_add e110 (by omega) (by omega)
              refine va_put (D := D) (ci := 12) (v := .int x109) (ty := .int) (C := RX12) (T := TX12) (N := 63) hx hb hts w1 tyX12 tyX12_ok nmX12 hown hK.1 hP hD hS 0 rfl rfl 13 (by decide) w2 (fun _ h9 => h9) rfl (by decide +kernel) rfl rfl (Nat.le_of_ble_eq_true rfl) dX12_findWorms_225 (fun H locs hP hD hS => ?_)
              obtain ⟨hP, hD⟩ : PD D A [O12 a12 r12 v12_keptMany v12_done v12_sheets v12_holes x109 v12_laidMany v12_wanted v12_orderMany v12_firstOrder v12_lines v12_marks v12_dots v12_madeIn v12_bound v12_places v12_maps v12_tapeMany v12_stories v12_base v12_at v12_ends v12_fault v12_opened v12_bodies v12_ran v12_ownKind v12_ownNumber, (cI κ (r12 8) 40 f12_sheetOf), (cI κ (r12 9) 40 f12_placeOf), (cI κ (r12 10) 40 g3), (cI κ (r12 11) 40 g15), (cI κ (r12 12) 40 g107)] H := ⟨hP, hD⟩
              have h112 : 0 ≤ x109.toInt ∧ x109.toInt ≤ 40 := by omega
              refine lv_aload_n hx hb dX12_findWorms_228 rfl (lv_at hl 5 rfl) ?_
              refine va_get (D := D) (ci := 12) (v := .ref (r12 12)) (C := RX12) (T := TX12) (N := 63) hx hb hts w1 hown hK.1 hP 0 rfl rfl 12 (by decide) w5 (fun _ h9 => h9) rfl dX12_findWorms_229 ?_
              refine lv_aload_n hx hb dX12_findWorms_232 rfl (lv_at hl 5 rfl) ?_
              refine va_get (D := D) (ci := 12) (v := .int x109) (C := RX12) (T := TX12) (N := 63) hx hb hts w1 hown hK.1 hP 0 rfl rfl 13 (by decide) w2 (fun _ h9 => h9) rfl dX12_findWorms_233 ?_
              refine lv_iconst (v := 1) hx hb dX12_findWorms_236 (by decide) ?_
              refine lv_isub hx hb dX12_findWorms_237 ?_
              refine lv_topi (fun x113 e114 => ?_)
              try have h115 : x113.toInt = x109.toInt - (1 : Int32).toInt := ci_sub e114 (by omega) (by omega)
              refine lv_dup2_11 hx hb dX12_findWorms_238 rfl rfl ?_
              refine va_iald hx hb hK.1 hP 5 1 rfl rfl (i := x113) (ix (by omega) (by omega)) dX12_findWorms_239 ?_
              refine lv_topi (fun x116 e117 => ?_)
              have hy9 := e117
              try rw [hs1] at hy9
              refine lv_iload hx hb dX12_findWorms_240 (lv_at hl 1 rfl) ?_
              refine lv_ior hx hb dX12_findWorms_242 ?_
              refine lv_topi (fun x118 e119 => ?_)
              have hz9 := e119
              refine va_iast hx hb hK.1 hP hD hS 5 1 rfl rfl (i := x113) (ix (by omega) (by omega)) dX12_findWorms_243 (fun H locs hP hD hS => ?_)
              obtain ⟨g120, e121⟩ : ∃ y : Nat → Int32, y = upd g107 x113.toNatClampNeg x118 := ⟨_, rfl⟩
              rw [← e121] at hP hD
              obtain ⟨hP, hD⟩ : PD D A [O12 a12 r12 v12_keptMany v12_done v12_sheets v12_holes x109 v12_laidMany v12_wanted v12_orderMany v12_firstOrder v12_lines v12_marks v12_dots v12_madeIn v12_bound v12_places v12_maps v12_tapeMany v12_stories v12_base v12_at v12_ends v12_fault v12_opened v12_bodies v12_ran v12_ownKind v12_ownNumber, (cI κ (r12 8) 40 f12_sheetOf), (cI κ (r12 9) 40 f12_placeOf), (cI κ (r12 10) 40 g3), (cI κ (r12 11) 40 g15), (cI κ (r12 12) 40 g120)] H := ⟨hP, hD⟩
              have hs2 := e121
              try rw [hs1] at hs2
              refine lv_aload_n hx hb dX12_findWorms_244 rfl (lv_at hl 5 rfl) ?_
              refine va_get (D := D) (ci := 12) (v := .ref (r12 11)) (C := RX12) (T := TX12) (N := 63) hx hb hts w1 hown hK.1 hP 0 rfl rfl 11 (by decide) w6 (fun _ h9 => h9) rfl dX12_findWorms_245 ?_
              refine lv_iload hx hb dX12_findWorms_248 (lv_at hl 2 rfl) ?_
              refine lv_aload_n hx hb dX12_findWorms_250 rfl (lv_at hl 5 rfl) ?_
              refine va_get (D := D) (ci := 12) (v := .int x109) (C := RX12) (T := TX12) (N := 63) hx hb hts w1 hown hK.1 hP 0 rfl rfl 13 (by decide) w2 (fun _ h9 => h9) rfl dX12_findWorms_251 ?_
              refine lv_iconst (v := 1) hx hb dX12_findWorms_254 (by decide) ?_
              refine lv_isub hx hb dX12_findWorms_255 ?_
              refine lv_topi (fun x122 e123 => ?_)
              try have h124 : x122.toInt = x109.toInt - (1 : Int32).toInt := ci_sub e123 (by omega) (by omega)
              refine va_iast hx hb hK.1 hP hD hS 4 1 rfl rfl (i := x24) (ix (by omega) (by omega)) dX12_findWorms_256 (fun H locs hP hD hS => ?_)
              obtain ⟨g125, e126⟩ : ∃ y : Nat → Int32, y = upd g15 x24.toNatClampNeg x122 := ⟨_, rfl⟩
              rw [← e126] at hP hD
              obtain ⟨hP, hD⟩ : PD D A [O12 a12 r12 v12_keptMany v12_done v12_sheets v12_holes x109 v12_laidMany v12_wanted v12_orderMany v12_firstOrder v12_lines v12_marks v12_dots v12_madeIn v12_bound v12_places v12_maps v12_tapeMany v12_stories v12_base v12_at v12_ends v12_fault v12_opened v12_bodies v12_ran v12_ownKind v12_ownNumber, (cI κ (r12 8) 40 f12_sheetOf), (cI κ (r12 9) 40 f12_placeOf), (cI κ (r12 10) 40 g3), (cI κ (r12 11) 40 g125), (cI κ (r12 12) 40 g120)] H := ⟨hP, hD⟩
              have hs3 := e126
              obtain ⟨x127, e128⟩ : ∃ y : Int32, y = k13 + 1 := ⟨_, rfl⟩
              refine lv_iinc (v := x127) (lv' := [(4, .int x127), (7, .int 0), (6, .int x30), (5, .int x24), (3, .int k2), (0, .ref a12), (1, .int p1), (2, .int p2)]) hx hb dX12_findWorms_257 hl (k := 3) rfl (by rw [e128]; rfl) (by decide) rfl (fun ls hl => ?_)
              try have h129 : x127.toInt = k13.toInt + (1 : Int32).toInt := ci_add e128 (by omega) (by omega)
              refine lv_goto (tgt := 113) hx hb dX12_findWorms_260 (by decide) ?_
              exact ih113 x127 x109 g125 g120 h112 (by omega) (by omega) (by omega) (by first | exact wi_start (by omega) (by omega) | exact wi_new hTW (by omega) (by omega) (by omega) hnw (by omega) hs2 (by omega) hy9 hz9 hbt hs3 (by rw [hho]) (by omega) | exact wi_old hTW (by omega) (by omega) (by omega) (by omega) (by omega) (by omega) hs2 (by omega) hy9 hz9 hbt hs3 (by rw [hho]) (by omega)) (by omega) _ _ hP hD hS _ (lv_sub hl [0, 4, 5, 6, 7] rfl)
            have c105 := ci_eq c105
            refine lv_iconst (v := 1) hx hb dX12_findWorms_196 (by decide) ?_
            refine lv_goto (tgt := 201) hx hb dX12_findWorms_197 (by decide) ?_
            refine lv_istore (lv' := [(7, .int 1), (6, .int x30), (5, .int x24), (4, .int k13), (3, .int k2), (0, .ref a12), (1, .int p1), (2, .int p2)]) hx hb dX12_findWorms_201 hl (by decide) rfl (fun ls hl => ?_)
            refine lv_iload hx hb dX12_findWorms_203 (lv_at hl 0 rfl) ?_
            refine lv_if_ne (tgt := 228) hx hb dX12_findWorms_205 (by decide) (fun c130 => ?_) (fun c130 => ?_)
            · have c130 := ci_ne c130
              refine lv_aload_n hx hb dX12_findWorms_228 rfl (lv_at hl 5 rfl) ?_
              refine va_get (D := D) (ci := 12) (v := .ref (r12 12)) (C := RX12) (T := TX12) (N := 63) hx hb hts w1 hown hK.1 hP 0 rfl rfl 12 (by decide) w5 (fun _ h9 => h9) rfl dX12_findWorms_229 ?_
              refine lv_aload_n hx hb dX12_findWorms_232 rfl (lv_at hl 5 rfl) ?_
              refine va_get (D := D) (ci := 12) (v := .int v14) (C := RX12) (T := TX12) (N := 63) hx hb hts w1 hown hK.1 hP 0 rfl rfl 13 (by decide) w2 (fun _ h9 => h9) rfl dX12_findWorms_233 ?_
              refine lv_iconst (v := 1) hx hb dX12_findWorms_236 (by decide) ?_
              refine lv_isub hx hb dX12_findWorms_237 ?_
              refine lv_topi (fun x131 e132 => ?_)
              try have h133 : x131.toInt = v14.toInt - (1 : Int32).toInt := ci_sub e132 (by omega) (by omega)
              refine lv_dup2_11 hx hb dX12_findWorms_238 rfl rfl ?_
              refine va_iald hx hb hK.1 hP 5 1 rfl rfl (i := x131) (ix (by omega) (by omega)) dX12_findWorms_239 ?_
              refine lv_topi (fun x134 e135 => ?_)
              have hy9 := e135
              try rw [hs1] at hy9
              refine lv_iload hx hb dX12_findWorms_240 (lv_at hl 1 rfl) ?_
              refine lv_ior hx hb dX12_findWorms_242 ?_
              refine lv_topi (fun x136 e137 => ?_)
              have hz9 := e137
              refine va_iast hx hb hK.1 hP hD hS 5 1 rfl rfl (i := x131) (ix (by omega) (by omega)) dX12_findWorms_243 (fun H locs hP hD hS => ?_)
              obtain ⟨g138, e139⟩ : ∃ y : Nat → Int32, y = upd g16 x131.toNatClampNeg x136 := ⟨_, rfl⟩
              rw [← e139] at hP hD
              obtain ⟨hP, hD⟩ : PD D A [O12 a12 r12 v12_keptMany v12_done v12_sheets v12_holes v14 v12_laidMany v12_wanted v12_orderMany v12_firstOrder v12_lines v12_marks v12_dots v12_madeIn v12_bound v12_places v12_maps v12_tapeMany v12_stories v12_base v12_at v12_ends v12_fault v12_opened v12_bodies v12_ran v12_ownKind v12_ownNumber, (cI κ (r12 8) 40 f12_sheetOf), (cI κ (r12 9) 40 f12_placeOf), (cI κ (r12 10) 40 g3), (cI κ (r12 11) 40 g15), (cI κ (r12 12) 40 g138)] H := ⟨hP, hD⟩
              have hs2 := e139
              try rw [hs1] at hs2
              refine lv_aload_n hx hb dX12_findWorms_244 rfl (lv_at hl 5 rfl) ?_
              refine va_get (D := D) (ci := 12) (v := .ref (r12 11)) (C := RX12) (T := TX12) (N := 63) hx hb hts w1 hown hK.1 hP 0 rfl rfl 11 (by decide) w6 (fun _ h9 => h9) rfl dX12_findWorms_245 ?_
              refine lv_iload hx hb dX12_findWorms_248 (lv_at hl 2 rfl) ?_
              refine lv_aload_n hx hb dX12_findWorms_250 rfl (lv_at hl 5 rfl) ?_
              refine va_get (D := D) (ci := 12) (v := .int v14) (C := RX12) (T := TX12) (N := 63) hx hb hts w1 hown hK.1 hP 0 rfl rfl 13 (by decide) w2 (fun _ h9 => h9) rfl dX12_findWorms_251 ?_
              refine lv_iconst (v := 1) hx hb dX12_findWorms_254 (by decide) ?_
              refine lv_isub hx hb dX12_findWorms_255 ?_
              refine lv_topi (fun x140 e141 => ?_)
              try have h142 : x140.toInt = v14.toInt - (1 : Int32).toInt := ci_sub e141 (by omega) (by omega)
              refine va_iast hx hb hK.1 hP hD hS 4 1 rfl rfl (i := x24) (ix (by omega) (by omega)) dX12_findWorms_256 (fun H locs hP hD hS => ?_)
              obtain ⟨g143, e144⟩ : ∃ y : Nat → Int32, y = upd g15 x24.toNatClampNeg x140 := ⟨_, rfl⟩
              rw [← e144] at hP hD
              obtain ⟨hP, hD⟩ : PD D A [O12 a12 r12 v12_keptMany v12_done v12_sheets v12_holes v14 v12_laidMany v12_wanted v12_orderMany v12_firstOrder v12_lines v12_marks v12_dots v12_madeIn v12_bound v12_places v12_maps v12_tapeMany v12_stories v12_base v12_at v12_ends v12_fault v12_opened v12_bodies v12_ran v12_ownKind v12_ownNumber, (cI κ (r12 8) 40 f12_sheetOf), (cI κ (r12 9) 40 f12_placeOf), (cI κ (r12 10) 40 g3), (cI κ (r12 11) 40 g143), (cI κ (r12 12) 40 g138)] H := ⟨hP, hD⟩
              have hs3 := e144
              obtain ⟨x145, e146⟩ : ∃ y : Int32, y = k13 + 1 := ⟨_, rfl⟩
              refine lv_iinc (v := x145) (lv' := [(4, .int x145), (7, .int 1), (6, .int x30), (5, .int x24), (3, .int k2), (0, .ref a12), (1, .int p1), (2, .int p2)]) hx hb dX12_findWorms_257 hl (k := 3) rfl (by rw [e146]; rfl) (by decide) rfl (fun ls hl => ?_)
              try have h147 : x145.toInt = k13.toInt + (1 : Int32).toInt := ci_add e146 (by omega) (by omega)
              refine lv_goto (tgt := 113) hx hb dX12_findWorms_260 (by decide) ?_
              exact ih113 x145 v14 g143 g138 h17 (by omega) (by omega) (by omega) (by first | exact wi_start (by omega) (by omega) | exact wi_new hTW (by omega) (by omega) (by omega) hnw (by omega) hs2 (by omega) hy9 hz9 hbt hs3 (by rw [hho]) (by omega) | exact wi_old hTW (by omega) (by omega) (by omega) (by omega) (by omega) (by omega) hs2 (by omega) hy9 hz9 hbt hs3 (by rw [hho]) (by omega)) (by omega) _ _ hP hD hS _ (lv_sub hl [0, 4, 5, 6, 7] rfl)
            have c130 := ci_eq c130
            exfalso
            omega
        exact lp113 ((k2.toInt - (0 : Int32).toInt).toNat + 1) 0 0 g5 f12_wormSheets h12 (by omega) (by omega) (by omega) (by first | exact wi_start (by omega) (by omega) | exact wi_new hTW (by omega) (by omega) (by omega) hnw (by omega) hs2 (by omega) hy9 hz9 hbt hs3 (by rw [hho]) (by omega) | exact wi_old hTW (by omega) (by omega) (by omega) (by omega) (by omega) (by omega) hs2 (by omega) hy9 hz9 hbt hs3 (by rw [hho]) (by omega)) (by omega) _ _ hP hD hS _ hl
      have c11 := ci_nle c11
      refine lv_aload_n hx hb dX12_findWorms_14 rfl (lv_at hl 2 rfl) ?_
      refine va_get (D := D) (ci := 12) (v := .ref (r12 11)) (C := RX12) (T := TX12) (N := 63) hx hb hts w1 hown hK.1 hP 0 rfl rfl 11 (by decide) w6 (fun _ h9 => h9) rfl dX12_findWorms_15 ?_
      refine lv_iload hx hb dX12_findWorms_18 (lv_at hl 0 rfl) ?_
      refine lv_iconst (v := (-1)) hx hb dX12_findWorms_20 (by decide) ?_
      refine va_iast hx hb hK.1 hP hD hS 4 1 rfl rfl (i := k1) (ix (by omega) (by omega)) dX12_findWorms_21 (fun H locs hP hD hS => ?_)
      obtain ⟨g148, e149⟩ : ∃ y : Nat → Int32, y = upd g5 k1.toNatClampNeg (-1) := ⟨_, rfl⟩
      rw [← e149] at hP hD
      obtain ⟨hP, hD⟩ : PD D A [O12 a12 r12 v12_keptMany v12_done v12_sheets v12_holes v12_worms v12_laidMany v12_wanted v12_orderMany v12_firstOrder v12_lines v12_marks v12_dots v12_madeIn v12_bound v12_places v12_maps v12_tapeMany v12_stories v12_base v12_at v12_ends v12_fault v12_opened v12_bodies v12_ran v12_ownKind v12_ownNumber, (cI κ (r12 8) 40 f12_sheetOf), (cI κ (r12 9) 40 f12_placeOf), (cI κ (r12 10) 40 g3), (cI κ (r12 11) 40 g148), (cI κ (r12 12) 40 f12_wormSheets)] H := ⟨hP, hD⟩
      refine lv_aload_n hx hb dX12_findWorms_22 rfl (lv_at hl 2 rfl) ?_
      refine va_get (D := D) (ci := 12) (v := .ref (r12 8)) (C := RX12) (T := TX12) (N := 63) hx hb hts w1 hown hK.1 hP 0 rfl rfl 8 (by decide) w4 (fun _ h9 => h9) rfl dX12_findWorms_23 ?_
      refine lv_iload hx hb dX12_findWorms_26 (lv_at hl 0 rfl) ?_
      refine va_iald hx hb hK.1 hP 1 1 rfl rfl (i := k1) (ix (by omega) (by omega)) dX12_findWorms_28 ?_
      refine lv_topi (fun x150 e151 => ?_)
      have h152 : 0 ≤ x150.toInt ∧ x150.toInt ≤ 7 := by rw [e151]; exact hf12_sheetOf _
      refine lv_iload_n hx hb dX12_findWorms_29 rfl (lv_at hl 4 rfl) ?_
      refine lv_icmp_eq (tgt := 99) hx hb dX12_findWorms_30 (by decide) (fun c153 => ?_) (fun c153 => ?_)
      · have c153 := ci_eq c153
        exfalso
        omega
      have c153 := ci_ne c153
      refine lv_iload_n hx hb dX12_findWorms_33 rfl (lv_at hl 1 rfl) ?_
      refine lv_istore (lv' := [(5, .int k2), (4, .int k1), (3, .int k2), (0, .ref a12), (1, .int p1), (2, .int p2)]) hx hb dX12_findWorms_34 hl (by decide) rfl (fun ls hl => ?_)
      have lp36 : ∀ (n36 : Nat) (k154 : Int32) (g155 : Nat → Int32), (∀ j : Nat, 0 ≤ (g155 j).toInt ∧ (g155 j).toInt ≤ 39) → (0 ≤ k154.toInt ∧ k154.toInt ≤ k2.toInt) → (g155 = shF g3 k2.toInt.toNat k154.toInt.toNat) → (insA f12_placeOf g3 (f12_placeOf k1.toNatClampNeg).toInt k2.toInt.toNat = insA f12_placeOf g3 (f12_placeOf k1.toNatClampNeg).toInt k154.toInt.toNat) → (k154.toInt).toNat < n36 → ∀ (H : Heap) (locs : List Loc), va_P D vwCl [O12 a12 r12 v12_keptMany v12_done v12_sheets v12_holes v12_worms v12_laidMany v12_wanted v12_orderMany v12_firstOrder v12_lines v12_marks v12_dots v12_madeIn v12_bound v12_places v12_maps v12_tapeMany v12_stories v12_base v12_at v12_ends v12_fault v12_opened v12_bodies v12_ran v12_ownKind v12_ownNumber, (cI κ (r12 8) 40 f12_sheetOf), (cI κ (r12 9) 40 f12_placeOf), (cI κ (r12 10) 40 g155), (cI κ (r12 11) 40 g148), (cI κ (r12 12) 40 f12_wormSheets)] H → va_D A [O12 a12 r12 v12_keptMany v12_done v12_sheets v12_holes v12_worms v12_laidMany v12_wanted v12_orderMany v12_firstOrder v12_lines v12_marks v12_dots v12_madeIn v12_bound v12_places v12_maps v12_tapeMany v12_stories v12_base v12_at v12_ends v12_fault v12_opened v12_bodies v12_ran v12_ownKind v12_ownNumber, (cI κ (r12 8) 40 f12_sheetOf), (cI κ (r12 9) 40 f12_placeOf), (cI κ (r12 10) 40 g155), (cI κ (r12 11) 40 g148), (cI κ (r12 12) 40 f12_wormSheets)] → va_S A s.heap H locs → ∀ ls : Array Slot, lv_has ls 8 [(5, .int k154), (4, .int k1), (3, .int k2), (0, .ref a12), (1, .int p1), (2, .int p2)] → W p l e ({ frames := 0, cells := 0, slots := 0, locals := 0 } : Room) s m args below meth c H locs 0 0 Q (F0 m 36 ls []) := by
        intro n36
        induction n36 with
        | zero =>
          intro k154 g155 h156 h157 h158 h159 m160
          exact absurd m160 (Nat.not_lt_zero _)
        | succ n36 ih36 =>
          intro k154 g155 h156 h157 h158 h159 m160 H locs hP hD hS ls hl
          have hsh : g155 = shF g3 k2.toInt.toNat k154.toInt.toNat := by assumption
          have hinq : insA f12_placeOf g3 (f12_placeOf k1.toNatClampNeg).toInt k2.toInt.toNat = insA f12_placeOf g3 (f12_placeOf k1.toNatClampNeg).toInt k154.toInt.toNat := by assumption
          obtain ⟨f0, hf0⟩ : ∃ f : Nat → Int32, f = g3 := ⟨_, rfl⟩
          have hshf := hsh
          have hinf := hinq
          rw [← hf0] at hshf hinf
          refine lv_iload hx hb dX12_findWorms_36 (lv_at hl 0 rfl) ?_
          refine lv_if_le (tgt := 87) hx hb dX12_findWorms_38 (by decide) (fun c161 => ?_) (fun c161 => ?_)
          · have c161 := ci_le c161
            have hAq : insA f12_placeOf f0 (f12_placeOf k1.toNatClampNeg).toInt k2.toInt.toNat = k154.toNatClampNeg := by first | exact ins_end0 hinf (by omega) | exact ins_end hinf hshf (by omega) (by omega)
            refine lv_aload_n hx hb dX12_findWorms_87 rfl (lv_at hl 3 rfl) ?_
            refine va_get (D := D) (ci := 12) (v := .ref (r12 10)) (C := RX12) (T := TX12) (N := 63) hx hb hts w1 hown hK.1 hP 0 rfl rfl 10 (by decide) w3 (fun _ h9 => h9) rfl dX12_findWorms_88 ?_
            refine lv_iload hx hb dX12_findWorms_91 (lv_at hl 0 rfl) ?_
            refine lv_iload hx hb dX12_findWorms_93 (lv_at hl 1 rfl) ?_
            refine va_iast hx hb hK.1 hP hD hS 3 1 rfl rfl (i := k154) (ix (by omega) (by omega)) dX12_findWorms_95 (fun H locs hP hD hS => ?_)
            obtain ⟨g162, e163⟩ : ∃ y : Nat → Int32, y = upd g155 k154.toNatClampNeg k1 := ⟨_, rfl⟩
            rw [← e163] at hP hD
            obtain ⟨hP, hD⟩ : PD D A [O12 a12 r12 v12_keptMany v12_done v12_sheets v12_holes v12_worms v12_laidMany v12_wanted v12_orderMany v12_firstOrder v12_lines v12_marks v12_dots v12_madeIn v12_bound v12_places v12_maps v12_tapeMany v12_stories v12_base v12_at v12_ends v12_fault v12_opened v12_bodies v12_ran v12_ownKind v12_ownNumber, (cI κ (r12 8) 40 f12_sheetOf), (cI κ (r12 9) 40 f12_placeOf), (cI κ (r12 10) 40 g162), (cI κ (r12 11) 40 g148), (cI κ (r12 12) 40 f12_wormSheets)] H := ⟨hP, hD⟩
            have h164 : ∀ j : Nat, 0 ≤ (g162 j).toInt ∧ (g162 j).toInt ≤ 39 := by rw [e163]; exact all_upd (P := fun z => 0 ≤ z.toInt ∧ z.toInt ≤ 39) h156 (by omega)
            have hbp9 := e163.trans (ins_put hAq hshf)
            rw [hf0] at hbp9
            obtain ⟨x165, e166⟩ : ∃ y : Int32, y = k2 + 1 := ⟨_, rfl⟩
            refine lv_iinc (v := x165) (lv' := [(3, .int x165), (5, .int k154), (4, .int k1), (0, .ref a12), (1, .int p1), (2, .int p2)]) hx hb dX12_findWorms_96 hl (k := 2) rfl (by rw [e166]; rfl) (by decide) rfl (fun ls hl => ?_)
            try have h167 : x165.toInt = k2.toInt + (1 : Int32).toInt := ci_add e166 (by omega) (by omega)
            obtain ⟨x168, e169⟩ : ∃ y : Int32, y = k1 + 1 := ⟨_, rfl⟩
            refine lv_iinc (v := x168) (lv' := [(4, .int x168), (3, .int x165), (5, .int k154), (0, .ref a12), (1, .int p1), (2, .int p2)]) hx hb dX12_findWorms_99 hl (k := 2) rfl (by rw [e169]; rfl) (by decide) rfl (fun ls hl => ?_)
            try have h170 : x168.toInt = k1.toInt + (1 : Int32).toInt := ci_add e169 (by omega) (by omega)
            refine lv_goto (tgt := 5) hx hb dX12_findWorms_102 (by decide) ?_
            exact ih5 x168 x165 g162 g148 h164 (by omega) (by omega) (by omega) (by first | (intro j9 h9; exact absurd h9 (by omega)) | exact srt_next2 hso (by omega) (by omega) (by omega) hbp9) (by omega) _ _ hP hD hS _ (lv_sub hl [0, 1, 3, 4, 5] rfl)
          have c161 := ci_nle c161
          refine lv_aload_n hx hb dX12_findWorms_41 rfl (lv_at hl 3 rfl) ?_
          refine va_get (D := D) (ci := 12) (v := .ref (r12 9)) (C := RX12) (T := TX12) (N := 63) hx hb hts w1 hown hK.1 hP 0 rfl rfl 9 (by decide) w7 (fun _ h9 => h9) rfl dX12_findWorms_42 ?_
          refine lv_aload_n hx hb dX12_findWorms_45 rfl (lv_at hl 3 rfl) ?_
          refine va_get (D := D) (ci := 12) (v := .ref (r12 10)) (C := RX12) (T := TX12) (N := 63) hx hb hts w1 hown hK.1 hP 0 rfl rfl 10 (by decide) w3 (fun _ h9 => h9) rfl dX12_findWorms_46 ?_
          refine lv_iload hx hb dX12_findWorms_49 (lv_at hl 0 rfl) ?_
          refine lv_iconst (v := 1) hx hb dX12_findWorms_51 (by decide) ?_
          refine lv_isub hx hb dX12_findWorms_52 ?_
          refine lv_topi (fun x171 e172 => ?_)
          try have h173 : x171.toInt = k154.toInt - (1 : Int32).toInt := ci_sub e172 (by omega) (by omega)
          refine va_iald hx hb hK.1 hP 3 1 rfl rfl (i := x171) (ix (by omega) (by omega)) dX12_findWorms_53 ?_
          refine lv_topi (fun x174 e175 => ?_)
          have h176 : 0 ≤ x174.toInt ∧ x174.toInt ≤ 39 := by rw [e175]; exact h156 _
          have hl1 := ld_at (k := k154) e175 (by omega) (by omega)
          refine va_iald hx hb hK.1 hP 2 1 rfl rfl (i := x174) (ix (by omega) (by omega)) dX12_findWorms_54 ?_
          refine lv_topi (fun x177 e178 => ?_)
          have h179 : 0 ≤ x177.toInt ∧ x177.toInt ≤ 999 := by rw [e178]; exact hf12_placeOf _
          have hl2 : x177.toInt = (f12_placeOf (g155 (k154.toInt - 1).toNat).toNatClampNeg).toInt := by rw [e178, hl1]
          refine lv_aload_n hx hb dX12_findWorms_55 rfl (lv_at hl 3 rfl) ?_
          refine va_get (D := D) (ci := 12) (v := .ref (r12 9)) (C := RX12) (T := TX12) (N := 63) hx hb hts w1 hown hK.1 hP 0 rfl rfl 9 (by decide) w7 (fun _ h9 => h9) rfl dX12_findWorms_56 ?_
          refine lv_iload hx hb dX12_findWorms_59 (lv_at hl 1 rfl) ?_
          refine va_iald hx hb hK.1 hP 2 1 rfl rfl (i := k1) (ix (by omega) (by omega)) dX12_findWorms_61 ?_
          refine lv_topi (fun x180 e181 => ?_)
          have h182 : 0 ≤ x180.toInt ∧ x180.toInt ≤ 999 := by rw [e181]; exact hf12_placeOf _
          have hl4 : x180.toInt = (f12_placeOf k1.toNatClampNeg).toInt := congrArg Int32.toInt e181
          refine lv_icmp_le (tgt := 87) hx hb dX12_findWorms_62 (by decide) (fun c183 => ?_) (fun c183 => ?_)
          · have c183 := ci_le c183
            have hAq : insA f12_placeOf f0 (f12_placeOf k1.toNatClampNeg).toInt k2.toInt.toNat = k154.toNatClampNeg := by first | exact ins_end0 hinf (by omega) | exact ins_end hinf hshf (by omega) (by omega)
            refine lv_aload_n hx hb dX12_findWorms_87 rfl (lv_at hl 3 rfl) ?_
            refine va_get (D := D) (ci := 12) (v := .ref (r12 10)) (C := RX12) (T := TX12) (N := 63) hx hb hts w1 hown hK.1 hP 0 rfl rfl 10 (by decide) w3 (fun _ h9 => h9) rfl dX12_findWorms_88 ?_
            refine lv_iload hx hb dX12_findWorms_91 (lv_at hl 0 rfl) ?_
            refine lv_iload hx hb dX12_findWorms_93 (lv_at hl 1 rfl) ?_
            refine va_iast hx hb hK.1 hP hD hS 3 1 rfl rfl (i := k154) (ix (by omega) (by omega)) dX12_findWorms_95 (fun H locs hP hD hS => ?_)
            obtain ⟨g184, e185⟩ : ∃ y : Nat → Int32, y = upd g155 k154.toNatClampNeg k1 := ⟨_, rfl⟩
            rw [← e185] at hP hD
            obtain ⟨hP, hD⟩ : PD D A [O12 a12 r12 v12_keptMany v12_done v12_sheets v12_holes v12_worms v12_laidMany v12_wanted v12_orderMany v12_firstOrder v12_lines v12_marks v12_dots v12_madeIn v12_bound v12_places v12_maps v12_tapeMany v12_stories v12_base v12_at v12_ends v12_fault v12_opened v12_bodies v12_ran v12_ownKind v12_ownNumber, (cI κ (r12 8) 40 f12_sheetOf), (cI κ (r12 9) 40 f12_placeOf), (cI κ (r12 10) 40 g184), (cI κ (r12 11) 40 g148), (cI κ (r12 12) 40 f12_wormSheets)] H := ⟨hP, hD⟩
            have h186 : ∀ j : Nat, 0 ≤ (g184 j).toInt ∧ (g184 j).toInt ≤ 39 := by rw [e185]; exact all_upd (P := fun z => 0 ≤ z.toInt ∧ z.toInt ≤ 39) h156 (by omega)
            have hbp9 := e185.trans (ins_put hAq hshf)
            rw [hf0] at hbp9
            obtain ⟨x187, e188⟩ : ∃ y : Int32, y = k2 + 1 := ⟨_, rfl⟩
            refine lv_iinc (v := x187) (lv' := [(3, .int x187), (5, .int k154), (4, .int k1), (0, .ref a12), (1, .int p1), (2, .int p2)]) hx hb dX12_findWorms_96 hl (k := 2) rfl (by rw [e188]; rfl) (by decide) rfl (fun ls hl => ?_)
            try have h189 : x187.toInt = k2.toInt + (1 : Int32).toInt := ci_add e188 (by omega) (by omega)
            obtain ⟨x190, e191⟩ : ∃ y : Int32, y = k1 + 1 := ⟨_, rfl⟩
            refine lv_iinc (v := x190) (lv' := [(4, .int x190), (3, .int x187), (5, .int k154), (0, .ref a12), (1, .int p1), (2, .int p2)]) hx hb dX12_findWorms_99 hl (k := 2) rfl (by rw [e191]; rfl) (by decide) rfl (fun ls hl => ?_)
            try have h192 : x190.toInt = k1.toInt + (1 : Int32).toInt := ci_add e191 (by omega) (by omega)
            refine lv_goto (tgt := 5) hx hb dX12_findWorms_102 (by decide) ?_
            exact ih5 x190 x187 g184 g148 h186 (by omega) (by omega) (by omega) (by first | (intro j9 h9; exact absurd h9 (by omega)) | exact srt_next2 hso (by omega) (by omega) (by omega) hbp9) (by omega) _ _ hP hD hS _ (lv_sub hl [0, 1, 3, 4, 5] rfl)
          have c183 := ci_nle c183
          refine lv_aload_n hx hb dX12_findWorms_65 rfl (lv_at hl 3 rfl) ?_
          refine va_get (D := D) (ci := 12) (v := .ref (r12 10)) (C := RX12) (T := TX12) (N := 63) hx hb hts w1 hown hK.1 hP 0 rfl rfl 10 (by decide) w3 (fun _ h9 => h9) rfl dX12_findWorms_66 ?_
          refine lv_iload hx hb dX12_findWorms_69 (lv_at hl 0 rfl) ?_
          refine lv_aload_n hx hb dX12_findWorms_71 rfl (lv_at hl 3 rfl) ?_
          refine va_get (D := D) (ci := 12) (v := .ref (r12 10)) (C := RX12) (T := TX12) (N := 63) hx hb hts w1 hown hK.1 hP 0 rfl rfl 10 (by decide) w3 (fun _ h9 => h9) rfl dX12_findWorms_72 ?_
          refine lv_iload hx hb dX12_findWorms_75 (lv_at hl 0 rfl) ?_
          refine lv_iconst (v := 1) hx hb dX12_findWorms_77 (by decide) ?_
          refine lv_isub hx hb dX12_findWorms_78 ?_
          refine lv_topi (fun x193 e194 => ?_)
          try have h195 : x193.toInt = k154.toInt - (1 : Int32).toInt := ci_sub e194 (by omega) (by omega)
          refine va_iald hx hb hK.1 hP 3 1 rfl rfl (i := x193) (ix (by omega) (by omega)) dX12_findWorms_79 ?_
          refine lv_topi (fun x196 e197 => ?_)
          have h198 : 0 ≤ x196.toInt ∧ x196.toInt ≤ 39 := by rw [e197]; exact h156 _
          have hl3 := ld_at (k := k154) e197 (by omega) (by omega)
          refine va_iast hx hb hK.1 hP hD hS 3 1 rfl rfl (i := k154) (ix (by omega) (by omega)) dX12_findWorms_80 (fun H locs hP hD hS => ?_)
          obtain ⟨g199, e200⟩ : ∃ y : Nat → Int32, y = upd g155 k154.toNatClampNeg x196 := ⟨_, rfl⟩
          rw [← e200] at hP hD
          obtain ⟨hP, hD⟩ : PD D A [O12 a12 r12 v12_keptMany v12_done v12_sheets v12_holes v12_worms v12_laidMany v12_wanted v12_orderMany v12_firstOrder v12_lines v12_marks v12_dots v12_madeIn v12_bound v12_places v12_maps v12_tapeMany v12_stories v12_base v12_at v12_ends v12_fault v12_opened v12_bodies v12_ran v12_ownKind v12_ownNumber, (cI κ (r12 8) 40 f12_sheetOf), (cI κ (r12 9) 40 f12_placeOf), (cI κ (r12 10) 40 g199), (cI κ (r12 11) 40 g148), (cI κ (r12 12) 40 f12_wormSheets)] H := ⟨hP, hD⟩
          have h201 : ∀ j : Nat, 0 ≤ (g199 j).toInt ∧ (g199 j).toInt ≤ 39 := by rw [e200]; exact all_upd (P := fun z => 0 ≤ z.toInt ∧ z.toInt ≤ 39) h156 (by omega)
          have hst9 := e200
          obtain ⟨x202, e203⟩ : ∃ y : Int32, y = k154 + (-1) := ⟨_, rfl⟩
          refine lv_iinc (v := x202) (lv' := [(5, .int x202), (4, .int k1), (3, .int k2), (0, .ref a12), (1, .int p1), (2, .int p2)]) hx hb dX12_findWorms_81 hl (k := 0) rfl (by rw [e203]; rfl) (by decide) rfl (fun ls hl => ?_)
          try have h204 : x202.toInt = k154.toInt + ((-1) : Int32).toInt := ci_add e203 (by omega) (by omega)
          refine lv_goto (tgt := 36) hx hb dX12_findWorms_84 (by decide) ?_
          exact ih36 x202 g199 h201 (by omega) (by first | exact shF_self (by omega) | exact sh_step hsh (by omega) (by omega) (by omega) hl3 hst9) (by first | exact congrArg (insA _ _ _) (by omega) | exact ins_go hinq hsh (by omega) (by omega) (by omega)) (by omega) _ _ hP hD hS _ hl
      exact lp36 ((k2.toInt).toNat + 1) k2 g3 h4 (by omega) (by first | exact shF_self (by omega) | exact sh_step hsh (by omega) (by omega) (by omega) hl3 hst9) (by first | exact congrArg (insA _ _ _) (by omega) | exact ins_go hinq hsh (by omega) (by omega) (by omega)) (by omega) _ _ hP hD hS _ hl
  exact lp5 ((v12_holes.toInt - (0 : Int32).toInt).toNat + 1) 0 0 f12_sorted f12_wormOf hf12_sorted (by omega) (by omega) (by omega) (by first | (intro j9 h9; exact absurd h9 (by omega)) | exact srt_next2 hso (by omega) (by omega) (by omega) hbp9) (by omega) _ _ hP hD hS _ hl
set_option maxHeartbeats 4000000 in
set_option maxRecDepth 100000 in
theorem k_X12_findWorms_k (l : Launch) (D : va_G) (κ : Nat → ClassId) (β : Nat) (a12 : Nat) (r12 : Nat → Nat) (v12_keptMany : Int32) (v12_done : Int32) (v12_sheets : Int32) (v12_holes : Int32) (v12_worms : Int32) (v12_laidMany : Int32) (v12_wanted : Int32) (v12_orderMany : Int32) (v12_firstOrder : Int32) (v12_lines : Int32) (v12_marks : Int32) (v12_dots : Int32) (v12_madeIn : Int32) (v12_bound : Int32) (v12_places : Int32) (v12_maps : Int32) (v12_tapeMany : Int32) (v12_stories : Int32) (v12_base : Int32) (v12_at : Int32) (v12_ends : Int32) (v12_fault : Int32) (v12_opened : Int32) (v12_bodies : Int32) (v12_ran : Int32) (v12_ownKind : Int32) (v12_ownNumber : Int32) (f12_sheetOf : Nat → Int32) (f12_placeOf : Nat → Int32) (f12_sorted : Nat → Int32) (f12_wormOf : Nat → Int32) (f12_wormSheets : Nat → Int32) (sz : Nat) (p1 : Int32) (p2 : Int32) (i1 : Rg 0 40 v12_keptMany) (i2 : Rg 0 40 v12_done) (i3 : Rg 0 8 v12_sheets) (i4 : Rg 0 40 v12_holes) (i5 : Rg 0 40 v12_worms) (i6 : Rg 0 8 v12_laidMany) (i7 : Rg 0 8 v12_wanted) (i8 : Rg 0 20 v12_lines) (i9 : Rg 0 60 v12_marks) (i10 : Rg 0 40 v12_dots) (i11 : Rg 0 20 v12_places) (i12 : Rg 0 8 v12_maps) (i13 : Rg 0 120 v12_tapeMany) (i14 : Rg 0 6 v12_stories) (i15 : Rg 0 50 v12_bodies) (i16 : Rg 0 1000 v12_ran) (hf12_sheetOf : ∀ j : Nat, 0 ≤ (f12_sheetOf j).toInt ∧ (f12_sheetOf j).toInt ≤ 7) (hf12_placeOf : ∀ j : Nat, 0 ≤ (f12_placeOf j).toInt ∧ (f12_placeOf j).toInt ≤ 999) (hf12_sorted : ∀ j : Nat, 0 ≤ (f12_sorted j).toInt ∧ (f12_sorted j).toInt ≤ 39) (i17 : v12_done.toInt ≤ v12_keptMany.toInt) (i18 : 0 ≤ p2.toInt) : Met l yX12_findWorms wsX12_findWorms ({ frames := 0, cells := 0, slots := 0, locals := 0 } : Room) (PcK D κ β [O12 a12 r12 v12_keptMany v12_done v12_sheets v12_holes v12_worms v12_laidMany v12_wanted v12_orderMany v12_firstOrder v12_lines v12_marks v12_dots v12_madeIn v12_bound v12_places v12_maps v12_tapeMany v12_stories v12_base v12_at v12_ends v12_fault v12_opened v12_bodies v12_ran v12_ownKind v12_ownNumber, (cI κ (r12 8) 40 f12_sheetOf), (cI κ (r12 9) 40 f12_placeOf), (cI κ (r12 10) 40 f12_sorted), (cI κ (r12 11) 40 f12_wormOf), (cI κ (r12 12) 40 f12_wormSheets)] sz [.ref a12, .int p1, .int p2]) (QvK D (fun (u : Int32 × (Nat → Int32) × (Nat → Int32) × (Nat → Int32)) => (0 ≤ u.1.toInt ∧ u.1.toInt ≤ 40) ∧ (∀ j : Nat, 0 ≤ (u.2.1 j).toInt ∧ (u.2.1 j).toInt ≤ 39) ∧ (WInv (csF f12_placeOf (kp9 f12_sheetOf p2) v12_holes.toInt.toNat) f12_sheetOf f12_placeOf p1.toInt (KL f12_placeOf (kp9 f12_sheetOf p2) v12_holes.toInt.toNat).length u.1 u.2.2.2 u.2.2.1)) (fun (u : Int32 × (Nat → Int32) × (Nat → Int32) × (Nat → Int32)) => [O12 a12 r12 v12_keptMany v12_done v12_sheets v12_holes u.1 v12_laidMany v12_wanted v12_orderMany v12_firstOrder v12_lines v12_marks v12_dots v12_madeIn v12_bound v12_places v12_maps v12_tapeMany v12_stories v12_base v12_at v12_ends v12_fault v12_opened v12_bodies v12_ran v12_ownKind v12_ownNumber, (cI κ (r12 8) 40 f12_sheetOf), (cI κ (r12 9) 40 f12_placeOf), (cI κ (r12 10) 40 u.2.1), (cI κ (r12 11) 40 u.2.2.1), (cI κ (r12 12) 40 u.2.2.2)]) [O12 a12 r12 v12_keptMany v12_done v12_sheets v12_holes v12_worms v12_laidMany v12_wanted v12_orderMany v12_firstOrder v12_lines v12_marks v12_dots v12_madeIn v12_bound v12_places v12_maps v12_tapeMany v12_stories v12_base v12_at v12_ends v12_fault v12_opened v12_bodies v12_ran v12_ownKind v12_ownNumber, (cI κ (r12 8) 40 f12_sheetOf), (cI κ (r12 9) 40 f12_placeOf), (cI κ (r12 10) 40 f12_sorted), (cI κ (r12 11) 40 f12_wormOf), (cI κ (r12 12) 40 f12_wormSheets)] sz) 0 0 (va_A [O12 a12 r12 v12_keptMany v12_done v12_sheets v12_holes v12_worms v12_laidMany v12_wanted v12_orderMany v12_firstOrder v12_lines v12_marks v12_dots v12_madeIn v12_bound v12_places v12_maps v12_tapeMany v12_stories v12_base v12_at v12_ends v12_fault v12_opened v12_bodies v12_ran v12_ownKind v12_ownNumber, (cI κ (r12 8) 40 f12_sheetOf), (cI κ (r12 9) 40 f12_placeOf), (cI κ (r12 10) 40 f12_sorted), (cI κ (r12 11) 40 f12_wormOf), (cI κ (r12 12) 40 f12_wormSheets)] sz) := by
  refine ofK_v (cc := cX12_findWorms) (maxL := 8) (own := RX12) (by decide) rfl rfl (Nat.le_of_ble_eq_true rfl) ?_
  intro p e s m args below meth c Q A ls hsz hx hb hml hts hown hK hA hAB hP hD hl hname ret
  have hS : va_S A s.heap s.heap [] := va_S.rf
  have hl : lv_has ls 8 [(0, .ref a12), (1, .int p1), (2, .int p2)] := hl
  have w0 := hts (.fieldLink RX12 140 "OlderSkinModel" "holes" "I") (List.mem_of_getElem? (i := 1) rfl)
  have w1 := (fun w h => List.mem_cons_of_mem _ (List.mem_append_right _ h) : ∀ w ∈ u_ws RX12 TX12 63, w ∈ wsX12_findWorms)
  have w2 := hts (.fieldLink RX12 160 "OlderSkinModel" "worms" "I") (List.mem_of_getElem? (i := 6) rfl)
  have w3 := hts (.fieldLink RX12 28 "OlderSkinModel" "sorted" "[I") (List.mem_of_getElem? (i := 5) rfl)
  have w4 := hts (.fieldLink RX12 22 "OlderSkinModel" "sheetOf" "[I") (List.mem_of_getElem? (i := 3) rfl)
  have w5 := hts (.fieldLink RX12 34 "OlderSkinModel" "wormSheets" "[I") (List.mem_of_getElem? (i := 7) rfl)
  have w6 := hts (.fieldLink RX12 31 "OlderSkinModel" "wormOf" "[I") (List.mem_of_getElem? (i := 2) rfl)
  have w7 := hts (.fieldLink RX12 25 "OlderSkinModel" "placeOf" "[I") (List.mem_of_getElem? (i := 4) rfl)
  have l0 : (0 : Int32).toInt = 0 := by decide
  have l1 : (1 : Int32).toInt = 1 := by decide
  have l2 : ((-1) : Int32).toInt = -1 := by decide
  have i4 : 0 ≤ v12_holes.toInt ∧ v12_holes.toInt ≤ 40 := i4
  have i5 : 0 ≤ v12_worms.toInt ∧ v12_worms.toInt ≤ 40 := i5
  refine lv_iconst (v := 0) hx hb dX12_findWorms_0 (by decide) ?_
  refine lv_istore_n (lv' := [(3, .int 0), (0, .ref a12), (1, .int p1), (2, .int p2)]) hx hb dX12_findWorms_1 rfl hl (by decide) rfl (fun ls hl => ?_)
  refine lv_iconst (v := 0) hx hb dX12_findWorms_2 (by decide) ?_
  refine lv_istore (lv' := [(4, .int 0), (3, .int 0), (0, .ref a12), (1, .int p1), (2, .int p2)]) hx hb dX12_findWorms_3 hl (by decide) rfl (fun ls hl => ?_)
  have lp5 : ∀ (n5 : Nat) (k1 : Int32) (k2 : Int32) (g3 : Nat → Int32) (g5 : Nat → Int32), (∀ j : Nat, 0 ≤ (g3 j).toInt ∧ (g3 j).toInt ≤ 39) → (0 ≤ k2.toInt ∧ k2.toInt ≤ k1.toInt) → (0 ≤ k1.toInt) → (k1.toInt ≤ v12_holes.toInt) → (arL g3 (KL f12_placeOf (kp9 f12_sheetOf p2) k1.toInt.toNat)) → (k2.toInt = (((KL f12_placeOf (kp9 f12_sheetOf p2) k1.toInt.toNat).length : Nat) : Int)) → (v12_holes.toInt - k1.toInt).toNat < n5 → ∀ (H : Heap) (locs : List Loc), va_P D vwCl [O12 a12 r12 v12_keptMany v12_done v12_sheets v12_holes v12_worms v12_laidMany v12_wanted v12_orderMany v12_firstOrder v12_lines v12_marks v12_dots v12_madeIn v12_bound v12_places v12_maps v12_tapeMany v12_stories v12_base v12_at v12_ends v12_fault v12_opened v12_bodies v12_ran v12_ownKind v12_ownNumber, (cI κ (r12 8) 40 f12_sheetOf), (cI κ (r12 9) 40 f12_placeOf), (cI κ (r12 10) 40 g3), (cI κ (r12 11) 40 g5), (cI κ (r12 12) 40 f12_wormSheets)] H → va_D A [O12 a12 r12 v12_keptMany v12_done v12_sheets v12_holes v12_worms v12_laidMany v12_wanted v12_orderMany v12_firstOrder v12_lines v12_marks v12_dots v12_madeIn v12_bound v12_places v12_maps v12_tapeMany v12_stories v12_base v12_at v12_ends v12_fault v12_opened v12_bodies v12_ran v12_ownKind v12_ownNumber, (cI κ (r12 8) 40 f12_sheetOf), (cI κ (r12 9) 40 f12_placeOf), (cI κ (r12 10) 40 g3), (cI κ (r12 11) 40 g5), (cI κ (r12 12) 40 f12_wormSheets)] → va_S A s.heap H locs → ∀ ls : Array Slot, lv_has ls 8 [(4, .int k1), (3, .int k2), (0, .ref a12), (1, .int p1), (2, .int p2)] → W p l e ({ frames := 0, cells := 0, slots := 0, locals := 0 } : Room) s m args below meth c H locs 0 0 Q (F0 m 5 ls []) := by
    intro n5
    induction n5 with
    | zero =>
      intro k1 k2 g3 g5 h4 h6 h7 h8 h9 h10 m11
      exact absurd m11 (Nat.not_lt_zero _)
    | succ n5 ih5 =>
      intro k1 k2 g3 g5 h4 h6 h7 h8 h9 h10 m11 H locs hP hD hS ls hl
      have hso : arL g3 (KL f12_placeOf (kp9 f12_sheetOf p2) k1.toInt.toNat) := by assumption
      have hsl : k2.toInt = (((KL f12_placeOf (kp9 f12_sheetOf p2) k1.toInt.toNat).length : Nat) : Int) := by assumption
      refine lv_iload hx hb dX12_findWorms_5 (lv_at hl 0 rfl) ?_
      refine lv_aload_n hx hb dX12_findWorms_7 rfl (lv_at hl 2 rfl) ?_
      refine va_get (D := D) (ci := 12) (v := .int v12_holes) (C := RX12) (T := TX12) (N := 63) hx hb hts w1 hown hK.1 hP 0 rfl rfl 7 (by decide) w0 (fun _ h9 => h9) rfl dX12_findWorms_8 ?_
      refine lv_icmp_ge (tgt := 105) hx hb dX12_findWorms_11 (by decide) (fun c12 => ?_) (fun c12 => ?_)
      · have c12 := ci_le c12
        have h4n : k1.toInt.toNat = v12_holes.toInt.toNat := by omega
        have hks : arL g3 (KL f12_placeOf (kp9 f12_sheetOf p2) v12_holes.toInt.toNat) := by rw [← h4n]; exact hso
        have hkn : k2.toInt = (((KL f12_placeOf (kp9 f12_sheetOf p2) v12_holes.toInt.toNat).length : Nat) : Int) := by rw [← h4n]; exact hsl
        refine lv_aload_n hx hb dX12_findWorms_105 rfl (lv_at hl 2 rfl) ?_
        refine lv_iconst (v := 0) hx hb dX12_findWorms_106 (by decide) ?_
        refine va_put (D := D) (ci := 12) (v := .int 0) (ty := .int) (C := RX12) (T := TX12) (N := 63) hx hb hts w1 tyX12 tyX12_ok nmX12 hown hK.1 hP hD hS 0 rfl rfl 13 (by decide) w2 (fun _ h9 => h9) rfl (by decide +kernel) rfl rfl (Nat.le_of_ble_eq_true rfl) dX12_findWorms_107 (fun H locs hP hD hS => ?_)
        obtain ⟨hP, hD⟩ : PD D A [O12 a12 r12 v12_keptMany v12_done v12_sheets v12_holes 0 v12_laidMany v12_wanted v12_orderMany v12_firstOrder v12_lines v12_marks v12_dots v12_madeIn v12_bound v12_places v12_maps v12_tapeMany v12_stories v12_base v12_at v12_ends v12_fault v12_opened v12_bodies v12_ran v12_ownKind v12_ownNumber, (cI κ (r12 8) 40 f12_sheetOf), (cI κ (r12 9) 40 f12_placeOf), (cI κ (r12 10) 40 g3), (cI κ (r12 11) 40 g5), (cI κ (r12 12) 40 f12_wormSheets)] H := ⟨hP, hD⟩
        have h13 : 0 ≤ (0 : Int32).toInt ∧ (0 : Int32).toInt ≤ 40 := by omega
        refine lv_iconst (v := 0) hx hb dX12_findWorms_110 (by decide) ?_
        refine lv_istore (lv' := [(4, .int 0), (3, .int k2), (0, .ref a12), (1, .int p1), (2, .int p2)]) hx hb dX12_findWorms_111 hl (by decide) rfl (fun ls hl => ?_)
        have lp113 : ∀ (n113 : Nat) (k14 : Int32) (v15 : Int32) (g16 : Nat → Int32) (g17 : Nat → Int32), (0 ≤ v15.toInt ∧ v15.toInt ≤ 40) → (v15.toInt ≤ k14.toInt) → (k14.toInt = 0 ∨ 1 ≤ v15.toInt) → (k14.toInt ≤ k2.toInt) → (WInv g3 f12_sheetOf f12_placeOf p1.toInt k14.toInt.toNat v15 g17 g16) → (k2.toInt - k14.toInt).toNat < n113 → ∀ (H : Heap) (locs : List Loc), va_P D vwCl [O12 a12 r12 v12_keptMany v12_done v12_sheets v12_holes v15 v12_laidMany v12_wanted v12_orderMany v12_firstOrder v12_lines v12_marks v12_dots v12_madeIn v12_bound v12_places v12_maps v12_tapeMany v12_stories v12_base v12_at v12_ends v12_fault v12_opened v12_bodies v12_ran v12_ownKind v12_ownNumber, (cI κ (r12 8) 40 f12_sheetOf), (cI κ (r12 9) 40 f12_placeOf), (cI κ (r12 10) 40 g3), (cI κ (r12 11) 40 g16), (cI κ (r12 12) 40 g17)] H → va_D A [O12 a12 r12 v12_keptMany v12_done v12_sheets v12_holes v15 v12_laidMany v12_wanted v12_orderMany v12_firstOrder v12_lines v12_marks v12_dots v12_madeIn v12_bound v12_places v12_maps v12_tapeMany v12_stories v12_base v12_at v12_ends v12_fault v12_opened v12_bodies v12_ran v12_ownKind v12_ownNumber, (cI κ (r12 8) 40 f12_sheetOf), (cI κ (r12 9) 40 f12_placeOf), (cI κ (r12 10) 40 g3), (cI κ (r12 11) 40 g16), (cI κ (r12 12) 40 g17)] → va_S A s.heap H locs → ∀ ls : Array Slot, lv_has ls 8 [(4, .int k14), (3, .int k2), (0, .ref a12), (1, .int p1), (2, .int p2)] → W p l e ({ frames := 0, cells := 0, slots := 0, locals := 0 } : Room) s m args below meth c H locs 0 0 Q (F0 m 113 ls []) := by
          intro n113
          induction n113 with
          | zero =>
            intro k14 v15 g16 g17 h18 h19 h20 h21 h22 m23
            exact absurd m23 (Nat.not_lt_zero _)
          | succ n113 ih113 =>
            intro k14 v15 g16 g17 h18 h19 h20 h21 h22 m23 H locs hP hD hS ls hl
            have hTW : WInv g3 f12_sheetOf f12_placeOf p1.toInt k14.toInt.toNat v15 g17 g16 := by assumption
            refine lv_iload hx hb dX12_findWorms_113 (lv_at hl 0 rfl) ?_
            refine lv_iload_n hx hb dX12_findWorms_115 rfl (lv_at hl 1 rfl) ?_
            refine lv_icmp_ge (tgt := 263) hx hb dX12_findWorms_116 (by decide) (fun c24 => ?_) (fun c24 => ?_)
            · have c24 := ci_le c24
              have hpo : (0 ≤ v15.toInt ∧ v15.toInt ≤ 40) ∧ (∀ j : Nat, 0 ≤ (g3 j).toInt ∧ (g3 j).toInt ≤ 39) ∧ (WInv (csF f12_placeOf (kp9 f12_sheetOf p2) v12_holes.toInt.toNat) f12_sheetOf f12_placeOf p1.toInt (KL f12_placeOf (kp9 f12_sheetOf p2) v12_holes.toInt.toNat).length v15 g17 g16) := ⟨h18, h4, (w9_fin hTW hks (by omega))⟩
              exact ret _ _ _ _ (v15, g3, g16, g17) dX12_findWorms_263 hpo hP hD hS
            have c24 := ci_nle c24
            refine lv_aload_n hx hb dX12_findWorms_119 rfl (lv_at hl 2 rfl) ?_
            refine va_get (D := D) (ci := 12) (v := .ref (r12 10)) (C := RX12) (T := TX12) (N := 63) hx hb hts w1 hown hK.1 hP 0 rfl rfl 10 (by decide) w3 (fun _ h9 => h9) rfl dX12_findWorms_120 ?_
            refine lv_iload hx hb dX12_findWorms_123 (lv_at hl 0 rfl) ?_
            refine va_iald hx hb hK.1 hP 3 1 rfl rfl (i := k14) (ix (by omega) (by omega)) dX12_findWorms_125 ?_
            refine lv_topi (fun x25 e26 => ?_)
            have h27 : 0 ≤ x25.toInt ∧ x25.toInt ≤ 39 := by rw [e26]; exact h4 _
            have hho := e26
            refine lv_istore (lv' := [(5, .int x25), (4, .int k14), (3, .int k2), (0, .ref a12), (1, .int p1), (2, .int p2)]) hx hb dX12_findWorms_126 hl (by decide) rfl (fun ls hl => ?_)
            refine lv_iconst (v := 1) hx hb dX12_findWorms_128 (by decide) ?_
            refine lv_aload_n hx hb dX12_findWorms_129 rfl (lv_at hl 3 rfl) ?_
            refine va_get (D := D) (ci := 12) (v := .ref (r12 8)) (C := RX12) (T := TX12) (N := 63) hx hb hts w1 hown hK.1 hP 0 rfl rfl 8 (by decide) w4 (fun _ h9 => h9) rfl dX12_findWorms_130 ?_
            refine lv_iload hx hb dX12_findWorms_133 (lv_at hl 0 rfl) ?_
            refine va_iald hx hb hK.1 hP 1 1 rfl rfl (i := x25) (ix (by omega) (by omega)) dX12_findWorms_135 ?_
            refine lv_topi (fun x28 e29 => ?_)
            have h30 : 0 ≤ x28.toInt ∧ x28.toInt ≤ 7 := by rw [e29]; exact hf12_sheetOf _
            have hx9 := e29
            have hx8 : 0 ≤ (f12_sheetOf (g3 k14.toNatClampNeg).toNatClampNeg).toInt := by rw [← hho, ← hx9]; omega
            refine lv_ishl hx hb dX12_findWorms_136 ?_
            refine lv_topi (fun x31 e32 => ?_)
            have hbt : x31 = bitW (f12_sheetOf (g3 k14.toNatClampNeg).toNatClampNeg) := by unfold bitW; rw [e32, hx9, hho]
            refine lv_istore (lv' := [(6, .int x31), (5, .int x25), (4, .int k14), (3, .int k2), (0, .ref a12), (1, .int p1), (2, .int p2)]) hx hb dX12_findWorms_137 hl (by decide) rfl (fun ls hl => ?_)
            refine lv_iload hx hb dX12_findWorms_139 (lv_at hl 2 rfl) ?_
            refine lv_if_le (tgt := 200) hx hb dX12_findWorms_141 (by decide) (fun c33 => ?_) (fun c33 => ?_)
            · have c33 := ci_le c33
              refine lv_iconst (v := 0) hx hb dX12_findWorms_200 (by decide) ?_
              refine lv_istore (lv' := [(7, .int 0), (6, .int x31), (5, .int x25), (4, .int k14), (3, .int k2), (0, .ref a12), (1, .int p1), (2, .int p2)]) hx hb dX12_findWorms_201 hl (by decide) rfl (fun ls hl => ?_)
              refine lv_iload hx hb dX12_findWorms_203 (lv_at hl 0 rfl) ?_
              refine lv_if_ne (tgt := 228) hx hb dX12_findWorms_205 (by decide) (fun c34 => ?_) (fun c34 => ?_)
              · have c34 := ci_ne c34
                exfalso
                omega
              have c34 := ci_eq c34
              have hnw : k14.toInt = 0 ∨ p1.toInt < (f12_placeOf (g3 k14.toNatClampNeg).toNatClampNeg).toInt - (f12_placeOf (g3 (k14.toInt - 1).toNat).toNatClampNeg).toInt ∨ (0 < k14.toInt ∧ (g17 (v15.toInt - 1).toNat &&& x31).toInt ≠ 0) := by first | exact Or.inl (by omega) | exact Or.inr (Or.inl (by omega)) | exact Or.inr (Or.inr ⟨by omega, by omega⟩)
              refine lv_aload_n hx hb dX12_findWorms_208 rfl (lv_at hl 5 rfl) ?_
              refine va_get (D := D) (ci := 12) (v := .ref (r12 12)) (C := RX12) (T := TX12) (N := 63) hx hb hts w1 hown hK.1 hP 0 rfl rfl 12 (by decide) w5 (fun _ h9 => h9) rfl dX12_findWorms_209 ?_
              refine lv_aload_n hx hb dX12_findWorms_212 rfl (lv_at hl 5 rfl) ?_
              refine va_get (D := D) (ci := 12) (v := .int v15) (C := RX12) (T := TX12) (N := 63) hx hb hts w1 hown hK.1 hP 0 rfl rfl 13 (by decide) w2 (fun _ h9 => h9) rfl dX12_findWorms_213 ?_
              refine lv_iconst (v := 0) hx hb dX12_findWorms_216 (by decide) ?_
              refine va_iast hx hb hK.1 hP hD hS 5 1 rfl rfl (i := v15) (ix (by omega) (by omega)) dX12_findWorms_217 (fun H locs hP hD hS => ?_)
              obtain ⟨g35, e36⟩ : ∃ y : Nat → Int32, y = upd g17 v15.toNatClampNeg 0 := ⟨_, rfl⟩
              rw [← e36] at hP hD
              obtain ⟨hP, hD⟩ : PD D A [O12 a12 r12 v12_keptMany v12_done v12_sheets v12_holes v15 v12_laidMany v12_wanted v12_orderMany v12_firstOrder v12_lines v12_marks v12_dots v12_madeIn v12_bound v12_places v12_maps v12_tapeMany v12_stories v12_base v12_at v12_ends v12_fault v12_opened v12_bodies v12_ran v12_ownKind v12_ownNumber, (cI κ (r12 8) 40 f12_sheetOf), (cI κ (r12 9) 40 f12_placeOf), (cI κ (r12 10) 40 g3), (cI κ (r12 11) 40 g16), (cI κ (r12 12) 40 g35)] H := ⟨hP, hD⟩
              have hs1 := e36
              refine lv_aload_n hx hb dX12_findWorms_218 rfl (lv_at hl 5 rfl) ?_
              refine lv_dup hx hb dX12_findWorms_219 rfl ?_
              refine va_get (D := D) (ci := 12) (v := .int v15) (C := RX12) (T := TX12) (N := 63) hx hb hts w1 hown hK.1 hP 0 rfl rfl 13 (by decide) w2 (fun _ h9 => h9) rfl dX12_findWorms_220 ?_
              refine lv_iconst (v := 1) hx hb dX12_findWorms_223 (by decide) ?_
              refine lv_iadd hx hb dX12_findWorms_224 ?_
              refine lv_topi (fun x37 e38 => ?_)
              try have h39 : x37.toInt = v15.toInt + (1 : Int32).toInt := ci_add e38 (by omega) (by omega)
              refine va_put (D := D) (ci := 12) (v := .int x37) (ty := .int) (C := RX12) (T := TX12) (N := 63) hx hb hts w1 tyX12 tyX12_ok nmX12 hown hK.1 hP hD hS 0 rfl rfl 13 (by decide) w2 (fun _ h9 => h9) rfl (by decide +kernel) rfl rfl (Nat.le_of_ble_eq_true rfl) dX12_findWorms_225 (fun H locs hP hD hS => ?_)
              obtain ⟨hP, hD⟩ : PD D A [O12 a12 r12 v12_keptMany v12_done v12_sheets v12_holes x37 v12_laidMany v12_wanted v12_orderMany v12_firstOrder v12_lines v12_marks v12_dots v12_madeIn v12_bound v12_places v12_maps v12_tapeMany v12_stories v12_base v12_at v12_ends v12_fault v12_opened v12_bodies v12_ran v12_ownKind v12_ownNumber, (cI κ (r12 8) 40 f12_sheetOf), (cI κ (r12 9) 40 f12_placeOf), (cI κ (r12 10) 40 g3), (cI κ (r12 11) 40 g16), (cI κ (r12 12) 40 g35)] H := ⟨hP, hD⟩
              have h40 : 0 ≤ x37.toInt ∧ x37.toInt ≤ 40 := by omega
              refine lv_aload_n hx hb dX12_findWorms_228 rfl (lv_at hl 5 rfl) ?_
              refine va_get (D := D) (ci := 12) (v := .ref (r12 12)) (C := RX12) (T := TX12) (N := 63) hx hb hts w1 hown hK.1 hP 0 rfl rfl 12 (by decide) w5 (fun _ h9 => h9) rfl dX12_findWorms_229 ?_
              refine lv_aload_n hx hb dX12_findWorms_232 rfl (lv_at hl 5 rfl) ?_
              refine va_get (D := D) (ci := 12) (v := .int x37) (C := RX12) (T := TX12) (N := 63) hx hb hts w1 hown hK.1 hP 0 rfl rfl 13 (by decide) w2 (fun _ h9 => h9) rfl dX12_findWorms_233 ?_
              refine lv_iconst (v := 1) hx hb dX12_findWorms_236 (by decide) ?_
              refine lv_isub hx hb dX12_findWorms_237 ?_
              refine lv_topi (fun x41 e42 => ?_)
              try have h43 : x41.toInt = x37.toInt - (1 : Int32).toInt := ci_sub e42 (by omega) (by omega)
              refine lv_dup2_11 hx hb dX12_findWorms_238 rfl rfl ?_
              refine va_iald hx hb hK.1 hP 5 1 rfl rfl (i := x41) (ix (by omega) (by omega)) dX12_findWorms_239 ?_
              refine lv_topi (fun x44 e45 => ?_)
              have hy9 := e45
              try rw [hs1] at hy9
              refine lv_iload hx hb dX12_findWorms_240 (lv_at hl 1 rfl) ?_
              refine lv_ior hx hb dX12_findWorms_242 ?_
              refine lv_topi (fun x46 e47 => ?_)
              have hz9 := e47
              refine va_iast hx hb hK.1 hP hD hS 5 1 rfl rfl (i := x41) (ix (by omega) (by omega)) dX12_findWorms_243 (fun H locs hP hD hS => ?_)
              obtain ⟨g48, e49⟩ : ∃ y : Nat → Int32, y = upd g35 x41.toNatClampNeg x46 := ⟨_, rfl⟩
              rw [← e49] at hP hD
              obtain ⟨hP, hD⟩ : PD D A [O12 a12 r12 v12_keptMany v12_done v12_sheets v12_holes x37 v12_laidMany v12_wanted v12_orderMany v12_firstOrder v12_lines v12_marks v12_dots v12_madeIn v12_bound v12_places v12_maps v12_tapeMany v12_stories v12_base v12_at v12_ends v12_fault v12_opened v12_bodies v12_ran v12_ownKind v12_ownNumber, (cI κ (r12 8) 40 f12_sheetOf), (cI κ (r12 9) 40 f12_placeOf), (cI κ (r12 10) 40 g3), (cI κ (r12 11) 40 g16), (cI κ (r12 12) 40 g48)] H := ⟨hP, hD⟩
              have hs2 := e49
              try rw [hs1] at hs2
              refine lv_aload_n hx hb dX12_findWorms_244 rfl (lv_at hl 5 rfl) ?_
              refine va_get (D := D) (ci := 12) (v := .ref (r12 11)) (C := RX12) (T := TX12) (N := 63) hx hb hts w1 hown hK.1 hP 0 rfl rfl 11 (by decide) w6 (fun _ h9 => h9) rfl dX12_findWorms_245 ?_
              refine lv_iload hx hb dX12_findWorms_248 (lv_at hl 2 rfl) ?_
              refine lv_aload_n hx hb dX12_findWorms_250 rfl (lv_at hl 5 rfl) ?_
              refine va_get (D := D) (ci := 12) (v := .int x37) (C := RX12) (T := TX12) (N := 63) hx hb hts w1 hown hK.1 hP 0 rfl rfl 13 (by decide) w2 (fun _ h9 => h9) rfl dX12_findWorms_251 ?_
              refine lv_iconst (v := 1) hx hb dX12_findWorms_254 (by decide) ?_
              refine lv_isub hx hb dX12_findWorms_255 ?_
              refine lv_topi (fun x50 e51 => ?_)
              try have h52 : x50.toInt = x37.toInt - (1 : Int32).toInt := ci_sub e51 (by omega) (by omega)
              refine va_iast hx hb hK.1 hP hD hS 4 1 rfl rfl (i := x25) (ix (by omega) (by omega)) dX12_findWorms_256 (fun H locs hP hD hS => ?_)
              obtain ⟨g53, e54⟩ : ∃ y : Nat → Int32, y = upd g16 x25.toNatClampNeg x50 := ⟨_, rfl⟩
              rw [← e54] at hP hD
              obtain ⟨hP, hD⟩ : PD D A [O12 a12 r12 v12_keptMany v12_done v12_sheets v12_holes x37 v12_laidMany v12_wanted v12_orderMany v12_firstOrder v12_lines v12_marks v12_dots v12_madeIn v12_bound v12_places v12_maps v12_tapeMany v12_stories v12_base v12_at v12_ends v12_fault v12_opened v12_bodies v12_ran v12_ownKind v12_ownNumber, (cI κ (r12 8) 40 f12_sheetOf), (cI κ (r12 9) 40 f12_placeOf), (cI κ (r12 10) 40 g3), (cI κ (r12 11) 40 g53), (cI κ (r12 12) 40 g48)] H := ⟨hP, hD⟩
              have hs3 := e54
              obtain ⟨x55, e56⟩ : ∃ y : Int32, y = k14 + 1 := ⟨_, rfl⟩
              refine lv_iinc (v := x55) (lv' := [(4, .int x55), (7, .int 0), (6, .int x31), (5, .int x25), (3, .int k2), (0, .ref a12), (1, .int p1), (2, .int p2)]) hx hb dX12_findWorms_257 hl (k := 3) rfl (by rw [e56]; rfl) (by decide) rfl (fun ls hl => ?_)
              try have h57 : x55.toInt = k14.toInt + (1 : Int32).toInt := ci_add e56 (by omega) (by omega)
              refine lv_goto (tgt := 113) hx hb dX12_findWorms_260 (by decide) ?_
              exact ih113 x55 x37 g53 g48 h40 (by omega) (by omega) (by omega) (by first | exact wi_start (by omega) (by omega) | exact wi_new hTW (by omega) (by omega) (by omega) hnw (by omega) hs2 (by omega) hy9 hz9 hbt hs3 (by rw [hho]) (by omega) | exact wi_old hTW (by omega) (by omega) (by omega) (by omega) (by omega) (by omega) hs2 (by omega) hy9 hz9 hbt hs3 (by rw [hho]) (by omega)) (by omega) _ _ hP hD hS _ (lv_sub hl [0, 4, 5, 6, 7] rfl)
            have c33 := ci_nle c33
            refine lv_aload_n hx hb dX12_findWorms_144 rfl (lv_at hl 4 rfl) ?_
            refine va_get (D := D) (ci := 12) (v := .ref (r12 9)) (C := RX12) (T := TX12) (N := 63) hx hb hts w1 hown hK.1 hP 0 rfl rfl 9 (by decide) w7 (fun _ h9 => h9) rfl dX12_findWorms_145 ?_
            refine lv_iload hx hb dX12_findWorms_148 (lv_at hl 1 rfl) ?_
            refine va_iald hx hb hK.1 hP 2 1 rfl rfl (i := x25) (ix (by omega) (by omega)) dX12_findWorms_150 ?_
            refine lv_topi (fun x58 e59 => ?_)
            have h60 : 0 ≤ x58.toInt ∧ x58.toInt ≤ 999 := by rw [e59]; exact hf12_placeOf _
            have hp1 : x58.toInt = (f12_placeOf (g3 k14.toNatClampNeg).toNatClampNeg).toInt := by rw [e59, hho]
            refine lv_aload_n hx hb dX12_findWorms_151 rfl (lv_at hl 4 rfl) ?_
            refine va_get (D := D) (ci := 12) (v := .ref (r12 9)) (C := RX12) (T := TX12) (N := 63) hx hb hts w1 hown hK.1 hP 0 rfl rfl 9 (by decide) w7 (fun _ h9 => h9) rfl dX12_findWorms_152 ?_
            refine lv_aload_n hx hb dX12_findWorms_155 rfl (lv_at hl 4 rfl) ?_
            refine va_get (D := D) (ci := 12) (v := .ref (r12 10)) (C := RX12) (T := TX12) (N := 63) hx hb hts w1 hown hK.1 hP 0 rfl rfl 10 (by decide) w3 (fun _ h9 => h9) rfl dX12_findWorms_156 ?_
            refine lv_iload hx hb dX12_findWorms_159 (lv_at hl 2 rfl) ?_
            refine lv_if_le (tgt := 171) hx hb dX12_findWorms_161 (by decide) (fun c61 => ?_) (fun c61 => ?_)
            · have c61 := ci_le c61
              exfalso
              omega
            have c61 := ci_nle c61
            refine lv_iload hx hb dX12_findWorms_164 (lv_at hl 2 rfl) ?_
            refine lv_iconst (v := 1) hx hb dX12_findWorms_166 (by decide) ?_
            refine lv_isub hx hb dX12_findWorms_167 ?_
            refine lv_topi (fun x62 e63 => ?_)
            try have h64 : x62.toInt = k14.toInt - (1 : Int32).toInt := ci_sub e63 (by omega) (by omega)
            refine lv_goto (tgt := 172) hx hb dX12_findWorms_168 (by decide) ?_
            refine va_iald hx hb hK.1 hP 3 1 rfl rfl (i := x62) (ix (by omega) (by omega)) dX12_findWorms_172 ?_
            refine lv_topi (fun x65 e66 => ?_)
            have h67 : 0 ≤ x65.toInt ∧ x65.toInt ≤ 39 := by rw [e66]; exact h4 _
            have hta9 := ld_at (k := k14) e66 (by omega) (by omega)
            refine va_iald hx hb hK.1 hP 2 1 rfl rfl (i := x65) (ix (by omega) (by omega)) dX12_findWorms_173 ?_
            refine lv_topi (fun x68 e69 => ?_)
            have h70 : 0 ≤ x68.toInt ∧ x68.toInt ≤ 999 := by rw [e69]; exact hf12_placeOf _
            have hp2 : x68.toInt = (f12_placeOf (g3 (k14.toInt - 1).toNat).toNatClampNeg).toInt := by rw [e69, hta9]
            refine lv_isub hx hb dX12_findWorms_174 ?_
            refine lv_topi (fun x71 e72 => ?_)
            try have h73 : x71.toInt = x58.toInt - x68.toInt := ci_sub e72 (by omega) (by omega)
            refine lv_iload_n hx hb dX12_findWorms_175 rfl (lv_at hl 5 rfl) ?_
            refine lv_icmp_gt (tgt := 200) hx hb dX12_findWorms_176 (by decide) (fun c74 => ?_) (fun c74 => ?_)
            · have c74 := ci_lt c74
              refine lv_iconst (v := 0) hx hb dX12_findWorms_200 (by decide) ?_
              refine lv_istore (lv' := [(7, .int 0), (6, .int x31), (5, .int x25), (4, .int k14), (3, .int k2), (0, .ref a12), (1, .int p1), (2, .int p2)]) hx hb dX12_findWorms_201 hl (by decide) rfl (fun ls hl => ?_)
              refine lv_iload hx hb dX12_findWorms_203 (lv_at hl 0 rfl) ?_
              refine lv_if_ne (tgt := 228) hx hb dX12_findWorms_205 (by decide) (fun c75 => ?_) (fun c75 => ?_)
              · have c75 := ci_ne c75
                exfalso
                omega
              have c75 := ci_eq c75
              have hnw : k14.toInt = 0 ∨ p1.toInt < (f12_placeOf (g3 k14.toNatClampNeg).toNatClampNeg).toInt - (f12_placeOf (g3 (k14.toInt - 1).toNat).toNatClampNeg).toInt ∨ (0 < k14.toInt ∧ (g17 (v15.toInt - 1).toNat &&& x31).toInt ≠ 0) := by first | exact Or.inl (by omega) | exact Or.inr (Or.inl (by omega)) | exact Or.inr (Or.inr ⟨by omega, by omega⟩)
              refine lv_aload_n hx hb dX12_findWorms_208 rfl (lv_at hl 5 rfl) ?_
              refine va_get (D := D) (ci := 12) (v := .ref (r12 12)) (C := RX12) (T := TX12) (N := 63) hx hb hts w1 hown hK.1 hP 0 rfl rfl 12 (by decide) w5 (fun _ h9 => h9) rfl dX12_findWorms_209 ?_
              refine lv_aload_n hx hb dX12_findWorms_212 rfl (lv_at hl 5 rfl) ?_
              refine va_get (D := D) (ci := 12) (v := .int v15) (C := RX12) (T := TX12) (N := 63) hx hb hts w1 hown hK.1 hP 0 rfl rfl 13 (by decide) w2 (fun _ h9 => h9) rfl dX12_findWorms_213 ?_
              refine lv_iconst (v := 0) hx hb dX12_findWorms_216 (by decide) ?_
              refine va_iast hx hb hK.1 hP hD hS 5 1 rfl rfl (i := v15) (ix (by omega) (by omega)) dX12_findWorms_217 (fun H locs hP hD hS => ?_)
              obtain ⟨g76, e77⟩ : ∃ y : Nat → Int32, y = upd g17 v15.toNatClampNeg 0 := ⟨_, rfl⟩
              rw [← e77] at hP hD
              obtain ⟨hP, hD⟩ : PD D A [O12 a12 r12 v12_keptMany v12_done v12_sheets v12_holes v15 v12_laidMany v12_wanted v12_orderMany v12_firstOrder v12_lines v12_marks v12_dots v12_madeIn v12_bound v12_places v12_maps v12_tapeMany v12_stories v12_base v12_at v12_ends v12_fault v12_opened v12_bodies v12_ran v12_ownKind v12_ownNumber, (cI κ (r12 8) 40 f12_sheetOf), (cI κ (r12 9) 40 f12_placeOf), (cI κ (r12 10) 40 g3), (cI κ (r12 11) 40 g16), (cI κ (r12 12) 40 g76)] H := ⟨hP, hD⟩
              have hs1 := e77
              refine lv_aload_n hx hb dX12_findWorms_218 rfl (lv_at hl 5 rfl) ?_
              refine lv_dup hx hb dX12_findWorms_219 rfl ?_
              refine va_get (D := D) (ci := 12) (v := .int v15) (C := RX12) (T := TX12) (N := 63) hx hb hts w1 hown hK.1 hP 0 rfl rfl 13 (by decide) w2 (fun _ h9 => h9) rfl dX12_findWorms_220 ?_
              refine lv_iconst (v := 1) hx hb dX12_findWorms_223 (by decide) ?_
              refine lv_iadd hx hb dX12_findWorms_224 ?_
              refine lv_topi (fun x78 e79 => ?_)
              try have h80 : x78.toInt = v15.toInt + (1 : Int32).toInt := ci_add e79 (by omega) (by omega)
              refine va_put (D := D) (ci := 12) (v := .int x78) (ty := .int) (C := RX12) (T := TX12) (N := 63) hx hb hts w1 tyX12 tyX12_ok nmX12 hown hK.1 hP hD hS 0 rfl rfl 13 (by decide) w2 (fun _ h9 => h9) rfl (by decide +kernel) rfl rfl (Nat.le_of_ble_eq_true rfl) dX12_findWorms_225 (fun H locs hP hD hS => ?_)
              obtain ⟨hP, hD⟩ : PD D A [O12 a12 r12 v12_keptMany v12_done v12_sheets v12_holes x78 v12_laidMany v12_wanted v12_orderMany v12_firstOrder v12_lines v12_marks v12_dots v12_madeIn v12_bound v12_places v12_maps v12_tapeMany v12_stories v12_base v12_at v12_ends v12_fault v12_opened v12_bodies v12_ran v12_ownKind v12_ownNumber, (cI κ (r12 8) 40 f12_sheetOf), (cI κ (r12 9) 40 f12_placeOf), (cI κ (r12 10) 40 g3), (cI κ (r12 11) 40 g16), (cI κ (r12 12) 40 g76)] H := ⟨hP, hD⟩
              have h81 : 0 ≤ x78.toInt ∧ x78.toInt ≤ 40 := by omega
              refine lv_aload_n hx hb dX12_findWorms_228 rfl (lv_at hl 5 rfl) ?_
              refine va_get (D := D) (ci := 12) (v := .ref (r12 12)) (C := RX12) (T := TX12) (N := 63) hx hb hts w1 hown hK.1 hP 0 rfl rfl 12 (by decide) w5 (fun _ h9 => h9) rfl dX12_findWorms_229 ?_
              refine lv_aload_n hx hb dX12_findWorms_232 rfl (lv_at hl 5 rfl) ?_
              refine va_get (D := D) (ci := 12) (v := .int x78) (C := RX12) (T := TX12) (N := 63) hx hb hts w1 hown hK.1 hP 0 rfl rfl 13 (by decide) w2 (fun _ h9 => h9) rfl dX12_findWorms_233 ?_
              refine lv_iconst (v := 1) hx hb dX12_findWorms_236 (by decide) ?_
              refine lv_isub hx hb dX12_findWorms_237 ?_
              refine lv_topi (fun x82 e83 => ?_)
              try have h84 : x82.toInt = x78.toInt - (1 : Int32).toInt := ci_sub e83 (by omega) (by omega)
              refine lv_dup2_11 hx hb dX12_findWorms_238 rfl rfl ?_
              refine va_iald hx hb hK.1 hP 5 1 rfl rfl (i := x82) (ix (by omega) (by omega)) dX12_findWorms_239 ?_
              refine lv_topi (fun x85 e86 => ?_)
              have hy9 := e86
              try rw [hs1] at hy9
              refine lv_iload hx hb dX12_findWorms_240 (lv_at hl 1 rfl) ?_
              refine lv_ior hx hb dX12_findWorms_242 ?_
              refine lv_topi (fun x87 e88 => ?_)
              have hz9 := e88
              refine va_iast hx hb hK.1 hP hD hS 5 1 rfl rfl (i := x82) (ix (by omega) (by omega)) dX12_findWorms_243 (fun H locs hP hD hS => ?_)
              obtain ⟨g89, e90⟩ : ∃ y : Nat → Int32, y = upd g76 x82.toNatClampNeg x87 := ⟨_, rfl⟩
              rw [← e90] at hP hD
              obtain ⟨hP, hD⟩ : PD D A [O12 a12 r12 v12_keptMany v12_done v12_sheets v12_holes x78 v12_laidMany v12_wanted v12_orderMany v12_firstOrder v12_lines v12_marks v12_dots v12_madeIn v12_bound v12_places v12_maps v12_tapeMany v12_stories v12_base v12_at v12_ends v12_fault v12_opened v12_bodies v12_ran v12_ownKind v12_ownNumber, (cI κ (r12 8) 40 f12_sheetOf), (cI κ (r12 9) 40 f12_placeOf), (cI κ (r12 10) 40 g3), (cI κ (r12 11) 40 g16), (cI κ (r12 12) 40 g89)] H := ⟨hP, hD⟩
              have hs2 := e90
              try rw [hs1] at hs2
              refine lv_aload_n hx hb dX12_findWorms_244 rfl (lv_at hl 5 rfl) ?_
              refine va_get (D := D) (ci := 12) (v := .ref (r12 11)) (C := RX12) (T := TX12) (N := 63) hx hb hts w1 hown hK.1 hP 0 rfl rfl 11 (by decide) w6 (fun _ h9 => h9) rfl dX12_findWorms_245 ?_
              refine lv_iload hx hb dX12_findWorms_248 (lv_at hl 2 rfl) ?_
              refine lv_aload_n hx hb dX12_findWorms_250 rfl (lv_at hl 5 rfl) ?_
              refine va_get (D := D) (ci := 12) (v := .int x78) (C := RX12) (T := TX12) (N := 63) hx hb hts w1 hown hK.1 hP 0 rfl rfl 13 (by decide) w2 (fun _ h9 => h9) rfl dX12_findWorms_251 ?_
              refine lv_iconst (v := 1) hx hb dX12_findWorms_254 (by decide) ?_
              refine lv_isub hx hb dX12_findWorms_255 ?_
              refine lv_topi (fun x91 e92 => ?_)
              try have h93 : x91.toInt = x78.toInt - (1 : Int32).toInt := ci_sub e92 (by omega) (by omega)
              refine va_iast hx hb hK.1 hP hD hS 4 1 rfl rfl (i := x25) (ix (by omega) (by omega)) dX12_findWorms_256 (fun H locs hP hD hS => ?_)
              obtain ⟨g94, e95⟩ : ∃ y : Nat → Int32, y = upd g16 x25.toNatClampNeg x91 := ⟨_, rfl⟩
              rw [← e95] at hP hD
              obtain ⟨hP, hD⟩ : PD D A [O12 a12 r12 v12_keptMany v12_done v12_sheets v12_holes x78 v12_laidMany v12_wanted v12_orderMany v12_firstOrder v12_lines v12_marks v12_dots v12_madeIn v12_bound v12_places v12_maps v12_tapeMany v12_stories v12_base v12_at v12_ends v12_fault v12_opened v12_bodies v12_ran v12_ownKind v12_ownNumber, (cI κ (r12 8) 40 f12_sheetOf), (cI κ (r12 9) 40 f12_placeOf), (cI κ (r12 10) 40 g3), (cI κ (r12 11) 40 g94), (cI κ (r12 12) 40 g89)] H := ⟨hP, hD⟩
              have hs3 := e95
              obtain ⟨x96, e97⟩ : ∃ y : Int32, y = k14 + 1 := ⟨_, rfl⟩
              refine lv_iinc (v := x96) (lv' := [(4, .int x96), (7, .int 0), (6, .int x31), (5, .int x25), (3, .int k2), (0, .ref a12), (1, .int p1), (2, .int p2)]) hx hb dX12_findWorms_257 hl (k := 3) rfl (by rw [e97]; rfl) (by decide) rfl (fun ls hl => ?_)
              try have h98 : x96.toInt = k14.toInt + (1 : Int32).toInt := ci_add e97 (by omega) (by omega)
              refine lv_goto (tgt := 113) hx hb dX12_findWorms_260 (by decide) ?_
              exact ih113 x96 x78 g94 g89 h81 (by omega) (by omega) (by omega) (by first | exact wi_start (by omega) (by omega) | exact wi_new hTW (by omega) (by omega) (by omega) hnw (by omega) hs2 (by omega) hy9 hz9 hbt hs3 (by rw [hho]) (by omega) | exact wi_old hTW (by omega) (by omega) (by omega) (by omega) (by omega) (by omega) hs2 (by omega) hy9 hz9 hbt hs3 (by rw [hho]) (by omega)) (by omega) _ _ hP hD hS _ (lv_sub hl [0, 4, 5, 6, 7] rfl)
            have c74 := ci_nlt c74
            refine lv_aload_n hx hb dX12_findWorms_179 rfl (lv_at hl 4 rfl) ?_
            refine va_get (D := D) (ci := 12) (v := .ref (r12 12)) (C := RX12) (T := TX12) (N := 63) hx hb hts w1 hown hK.1 hP 0 rfl rfl 12 (by decide) w5 (fun _ h9 => h9) rfl dX12_findWorms_180 ?_
            refine lv_aload_n hx hb dX12_findWorms_183 rfl (lv_at hl 4 rfl) ?_
            refine va_get (D := D) (ci := 12) (v := .int v15) (C := RX12) (T := TX12) (N := 63) hx hb hts w1 hown hK.1 hP 0 rfl rfl 13 (by decide) w2 (fun _ h9 => h9) rfl dX12_findWorms_184 ?_
            refine lv_iconst (v := 1) hx hb dX12_findWorms_187 (by decide) ?_
            refine lv_isub hx hb dX12_findWorms_188 ?_
            refine lv_topi (fun x99 e100 => ?_)
            try have h101 : x99.toInt = v15.toInt - (1 : Int32).toInt := ci_sub e100 (by omega) (by omega)
            refine va_iald hx hb hK.1 hP 5 1 rfl rfl (i := x99) (ix (by omega) (by omega)) dX12_findWorms_189 ?_
            refine lv_topi (fun x102 e103 => ?_)
            have hg1 := ld_at (k := v15) e103 (by omega) (by omega)
            refine lv_iload hx hb dX12_findWorms_190 (lv_at hl 0 rfl) ?_
            refine lv_iand hx hb dX12_findWorms_192 ?_
            refine lv_topi (fun x104 e105 => ?_)
            have hg2 : x104.toInt = (g17 (v15.toInt - 1).toNat &&& x31).toInt := by rw [e105, hg1]
            refine lv_if_ne (tgt := 200) hx hb dX12_findWorms_193 (by decide) (fun c106 => ?_) (fun c106 => ?_)
            · have c106 := ci_ne c106
              refine lv_iconst (v := 0) hx hb dX12_findWorms_200 (by decide) ?_
              refine lv_istore (lv' := [(7, .int 0), (6, .int x31), (5, .int x25), (4, .int k14), (3, .int k2), (0, .ref a12), (1, .int p1), (2, .int p2)]) hx hb dX12_findWorms_201 hl (by decide) rfl (fun ls hl => ?_)
              refine lv_iload hx hb dX12_findWorms_203 (lv_at hl 0 rfl) ?_
              refine lv_if_ne (tgt := 228) hx hb dX12_findWorms_205 (by decide) (fun c107 => ?_) (fun c107 => ?_)
              · have c107 := ci_ne c107
                exfalso
                omega
              have c107 := ci_eq c107
              have hnw : k14.toInt = 0 ∨ p1.toInt < (f12_placeOf (g3 k14.toNatClampNeg).toNatClampNeg).toInt - (f12_placeOf (g3 (k14.toInt - 1).toNat).toNatClampNeg).toInt ∨ (0 < k14.toInt ∧ (g17 (v15.toInt - 1).toNat &&& x31).toInt ≠ 0) := by first | exact Or.inl (by omega) | exact Or.inr (Or.inl (by omega)) | exact Or.inr (Or.inr ⟨by omega, by omega⟩)
              refine lv_aload_n hx hb dX12_findWorms_208 rfl (lv_at hl 5 rfl) ?_
              refine va_get (D := D) (ci := 12) (v := .ref (r12 12)) (C := RX12) (T := TX12) (N := 63) hx hb hts w1 hown hK.1 hP 0 rfl rfl 12 (by decide) w5 (fun _ h9 => h9) rfl dX12_findWorms_209 ?_
              refine lv_aload_n hx hb dX12_findWorms_212 rfl (lv_at hl 5 rfl) ?_
              refine va_get (D := D) (ci := 12) (v := .int v15) (C := RX12) (T := TX12) (N := 63) hx hb hts w1 hown hK.1 hP 0 rfl rfl 13 (by decide) w2 (fun _ h9 => h9) rfl dX12_findWorms_213 ?_
              refine lv_iconst (v := 0) hx hb dX12_findWorms_216 (by decide) ?_
              refine va_iast hx hb hK.1 hP hD hS 5 1 rfl rfl (i := v15) (ix (by omega) (by omega)) dX12_findWorms_217 (fun H locs hP hD hS => ?_)
              obtain ⟨g108, e109⟩ : ∃ y : Nat → Int32, y = upd g17 v15.toNatClampNeg 0 := ⟨_, rfl⟩
              rw [← e109] at hP hD
              obtain ⟨hP, hD⟩ : PD D A [O12 a12 r12 v12_keptMany v12_done v12_sheets v12_holes v15 v12_laidMany v12_wanted v12_orderMany v12_firstOrder v12_lines v12_marks v12_dots v12_madeIn v12_bound v12_places v12_maps v12_tapeMany v12_stories v12_base v12_at v12_ends v12_fault v12_opened v12_bodies v12_ran v12_ownKind v12_ownNumber, (cI κ (r12 8) 40 f12_sheetOf), (cI κ (r12 9) 40 f12_placeOf), (cI κ (r12 10) 40 g3), (cI κ (r12 11) 40 g16), (cI κ (r12 12) 40 g108)] H := ⟨hP, hD⟩
              have hs1 := e109
              refine lv_aload_n hx hb dX12_findWorms_218 rfl (lv_at hl 5 rfl) ?_
              refine lv_dup hx hb dX12_findWorms_219 rfl ?_
              refine va_get (D := D) (ci := 12) (v := .int v15) (C := RX12) (T := TX12) (N := 63) hx hb hts w1 hown hK.1 hP 0 rfl rfl 13 (by decide) w2 (fun _ h9 => h9) rfl dX12_findWorms_220 ?_
              refine lv_iconst (v := 1) hx hb dX12_findWorms_223 (by decide) ?_
              refine lv_iadd hx hb dX12_findWorms_224 ?_
              refine lv_topi (fun x110 e111 => ?_)
              try have h112 : x110.toInt = v15.toInt + (1 : Int32).toInt := ci_add e111 (by omega) (by omega)
              refine va_put (D := D) (ci := 12) (v := .int x110) (ty := .int) (C := RX12) (T := TX12) (N := 63) hx hb hts w1 tyX12 tyX12_ok nmX12 hown hK.1 hP hD hS 0 rfl rfl 13 (by decide) w2 (fun _ h9 => h9) rfl (by decide +kernel) rfl rfl (Nat.le_of_ble_eq_true rfl) dX12_findWorms_225 (fun H locs hP hD hS => ?_)
              obtain ⟨hP, hD⟩ : PD D A [O12 a12 r12 v12_keptMany v12_done v12_sheets v12_holes x110 v12_laidMany v12_wanted v12_orderMany v12_firstOrder v12_lines v12_marks v12_dots v12_madeIn v12_bound v12_places v12_maps v12_tapeMany v12_stories v12_base v12_at v12_ends v12_fault v12_opened v12_bodies v12_ran v12_ownKind v12_ownNumber, (cI κ (r12 8) 40 f12_sheetOf), (cI κ (r12 9) 40 f12_placeOf), (cI κ (r12 10) 40 g3), (cI κ (r12 11) 40 g16), (cI κ (r12 12) 40 g108)] H := ⟨hP, hD⟩
              have h113 : 0 ≤ x110.toInt ∧ x110.toInt ≤ 40 := by omega
              refine lv_aload_n hx hb dX12_findWorms_228 rfl (lv_at hl 5 rfl) ?_
              refine va_get (D := D) (ci := 12) (v := .ref (r12 12)) (C := RX12) (T := TX12) (N := 63) hx hb hts w1 hown hK.1 hP 0 rfl rfl 12 (by decide) w5 (fun _ h9 => h9) rfl dX12_findWorms_229 ?_
              refine lv_aload_n hx hb dX12_findWorms_232 rfl (lv_at hl 5 rfl) ?_
              refine va_get (D := D) (ci := 12) (v := .int x110) (C := RX12) (T := TX12) (N := 63) hx hb hts w1 hown hK.1 hP 0 rfl rfl 13 (by decide) w2 (fun _ h9 => h9) rfl dX12_findWorms_233 ?_
              refine lv_iconst (v := 1) hx hb dX12_findWorms_236 (by decide) ?_
              refine lv_isub hx hb dX12_findWorms_237 ?_
              refine lv_topi (fun x114 e115 => ?_)
              try have h116 : x114.toInt = x110.toInt - (1 : Int32).toInt := ci_sub e115 (by omega) (by omega)
              refine lv_dup2_11 hx hb dX12_findWorms_238 rfl rfl ?_
              refine va_iald hx hb hK.1 hP 5 1 rfl rfl (i := x114) (ix (by omega) (by omega)) dX12_findWorms_239 ?_
              refine lv_topi (fun x117 e118 => ?_)
              have hy9 := e118
              try rw [hs1] at hy9
              refine lv_iload hx hb dX12_findWorms_240 (lv_at hl 1 rfl) ?_
              refine lv_ior hx hb dX12_findWorms_242 ?_
              refine lv_topi (fun x119 e120 => ?_)
              have hz9 := e120
              refine va_iast hx hb hK.1 hP hD hS 5 1 rfl rfl (i := x114) (ix (by omega) (by omega)) dX12_findWorms_243 (fun H locs hP hD hS => ?_)
              obtain ⟨g121, e122⟩ : ∃ y : Nat → Int32, y = upd g108 x114.toNatClampNeg x119 := ⟨_, rfl⟩
              rw [← e122] at hP hD
              obtain ⟨hP, hD⟩ : PD D A [O12 a12 r12 v12_keptMany v12_done v12_sheets v12_holes x110 v12_laidMany v12_wanted v12_orderMany v12_firstOrder v12_lines v12_marks v12_dots v12_madeIn v12_bound v12_places v12_maps v12_tapeMany v12_stories v12_base v12_at v12_ends v12_fault v12_opened v12_bodies v12_ran v12_ownKind v12_ownNumber, (cI κ (r12 8) 40 f12_sheetOf), (cI κ (r12 9) 40 f12_placeOf), (cI κ (r12 10) 40 g3), (cI κ (r12 11) 40 g16), (cI κ (r12 12) 40 g121)] H := ⟨hP, hD⟩
              have hs2 := e122
              try rw [hs1] at hs2
              refine lv_aload_n hx hb dX12_findWorms_244 rfl (lv_at hl 5 rfl) ?_
              refine va_get (D := D) (ci := 12) (v := .ref (r12 11)) (C := RX12) (T := TX12) (N := 63) hx hb hts w1 hown hK.1 hP 0 rfl rfl 11 (by decide) w6 (fun _ h9 => h9) rfl dX12_findWorms_245 ?_
              refine lv_iload hx hb dX12_findWorms_248 (lv_at hl 2 rfl) ?_
              refine lv_aload_n hx hb dX12_findWorms_250 rfl (lv_at hl 5 rfl) ?_
              refine va_get (D := D) (ci := 12) (v := .int x110) (C := RX12) (T := TX12) (N := 63) hx hb hts w1 hown hK.1 hP 0 rfl rfl 13 (by decide) w2 (fun _ h9 => h9) rfl dX12_findWorms_251 ?_
              refine lv_iconst (v := 1) hx hb dX12_findWorms_254 (by decide) ?_
              refine lv_isub hx hb dX12_findWorms_255 ?_
              refine lv_topi (fun x123 e124 => ?_)
              try have h125 : x123.toInt = x110.toInt - (1 : Int32).toInt := ci_sub e124 (by omega) (by omega)
              refine va_iast hx hb hK.1 hP hD hS 4 1 rfl rfl (i := x25) (ix (by omega) (by omega)) dX12_findWorms_256 (fun H locs hP hD hS => ?_)
              obtain ⟨g126, e127⟩ : ∃ y : Nat → Int32, y = upd g16 x25.toNatClampNeg x123 := ⟨_, rfl⟩
              rw [← e127] at hP hD
              obtain ⟨hP, hD⟩ : PD D A [O12 a12 r12 v12_keptMany v12_done v12_sheets v12_holes x110 v12_laidMany v12_wanted v12_orderMany v12_firstOrder v12_lines v12_marks v12_dots v12_madeIn v12_bound v12_places v12_maps v12_tapeMany v12_stories v12_base v12_at v12_ends v12_fault v12_opened v12_bodies v12_ran v12_ownKind v12_ownNumber, (cI κ (r12 8) 40 f12_sheetOf), (cI κ (r12 9) 40 f12_placeOf), (cI κ (r12 10) 40 g3), (cI κ (r12 11) 40 g126), (cI κ (r12 12) 40 g121)] H := ⟨hP, hD⟩
              have hs3 := e127
              obtain ⟨x128, e129⟩ : ∃ y : Int32, y = k14 + 1 := ⟨_, rfl⟩
              refine lv_iinc (v := x128) (lv' := [(4, .int x128), (7, .int 0), (6, .int x31), (5, .int x25), (3, .int k2), (0, .ref a12), (1, .int p1), (2, .int p2)]) hx hb dX12_findWorms_257 hl (k := 3) rfl (by rw [e129]; rfl) (by decide) rfl (fun ls hl => ?_)
              try have h130 : x128.toInt = k14.toInt + (1 : Int32).toInt := ci_add e129 (by omega) (by omega)
              refine lv_goto (tgt := 113) hx hb dX12_findWorms_260 (by decide) ?_
              exact ih113 x128 x110 g126 g121 h113 (by omega) (by omega) (by omega) (by first | exact wi_start (by omega) (by omega) | exact wi_new hTW (by omega) (by omega) (by omega) hnw (by omega) hs2 (by omega) hy9 hz9 hbt hs3 (by rw [hho]) (by omega) | exact wi_old hTW (by omega) (by omega) (by omega) (by omega) (by omega) (by omega) hs2 (by omega) hy9 hz9 hbt hs3 (by rw [hho]) (by omega)) (by omega) _ _ hP hD hS _ (lv_sub hl [0, 4, 5, 6, 7] rfl)
            have c106 := ci_eq c106
            refine lv_iconst (v := 1) hx hb dX12_findWorms_196 (by decide) ?_
            refine lv_goto (tgt := 201) hx hb dX12_findWorms_197 (by decide) ?_
            refine lv_istore (lv' := [(7, .int 1), (6, .int x31), (5, .int x25), (4, .int k14), (3, .int k2), (0, .ref a12), (1, .int p1), (2, .int p2)]) hx hb dX12_findWorms_201 hl (by decide) rfl (fun ls hl => ?_)
            refine lv_iload hx hb dX12_findWorms_203 (lv_at hl 0 rfl) ?_
            refine lv_if_ne (tgt := 228) hx hb dX12_findWorms_205 (by decide) (fun c131 => ?_) (fun c131 => ?_)
            · have c131 := ci_ne c131
              refine lv_aload_n hx hb dX12_findWorms_228 rfl (lv_at hl 5 rfl) ?_
              refine va_get (D := D) (ci := 12) (v := .ref (r12 12)) (C := RX12) (T := TX12) (N := 63) hx hb hts w1 hown hK.1 hP 0 rfl rfl 12 (by decide) w5 (fun _ h9 => h9) rfl dX12_findWorms_229 ?_
              refine lv_aload_n hx hb dX12_findWorms_232 rfl (lv_at hl 5 rfl) ?_
              refine va_get (D := D) (ci := 12) (v := .int v15) (C := RX12) (T := TX12) (N := 63) hx hb hts w1 hown hK.1 hP 0 rfl rfl 13 (by decide) w2 (fun _ h9 => h9) rfl dX12_findWorms_233 ?_
              refine lv_iconst (v := 1) hx hb dX12_findWorms_236 (by decide) ?_
              refine lv_isub hx hb dX12_findWorms_237 ?_
              refine lv_topi (fun x132 e133 => ?_)
              try have h134 : x132.toInt = v15.toInt - (1 : Int32).toInt := ci_sub e133 (by omega) (by omega)
              refine lv_dup2_11 hx hb dX12_findWorms_238 rfl rfl ?_
              refine va_iald hx hb hK.1 hP 5 1 rfl rfl (i := x132) (ix (by omega) (by omega)) dX12_findWorms_239 ?_
              refine lv_topi (fun x135 e136 => ?_)
              have hy9 := e136
              try rw [hs1] at hy9
              refine lv_iload hx hb dX12_findWorms_240 (lv_at hl 1 rfl) ?_
              refine lv_ior hx hb dX12_findWorms_242 ?_
              refine lv_topi (fun x137 e138 => ?_)
              have hz9 := e138
              refine va_iast hx hb hK.1 hP hD hS 5 1 rfl rfl (i := x132) (ix (by omega) (by omega)) dX12_findWorms_243 (fun H locs hP hD hS => ?_)
              obtain ⟨g139, e140⟩ : ∃ y : Nat → Int32, y = upd g17 x132.toNatClampNeg x137 := ⟨_, rfl⟩
              rw [← e140] at hP hD
              obtain ⟨hP, hD⟩ : PD D A [O12 a12 r12 v12_keptMany v12_done v12_sheets v12_holes v15 v12_laidMany v12_wanted v12_orderMany v12_firstOrder v12_lines v12_marks v12_dots v12_madeIn v12_bound v12_places v12_maps v12_tapeMany v12_stories v12_base v12_at v12_ends v12_fault v12_opened v12_bodies v12_ran v12_ownKind v12_ownNumber, (cI κ (r12 8) 40 f12_sheetOf), (cI κ (r12 9) 40 f12_placeOf), (cI κ (r12 10) 40 g3), (cI κ (r12 11) 40 g16), (cI κ (r12 12) 40 g139)] H := ⟨hP, hD⟩
              have hs2 := e140
              try rw [hs1] at hs2
              refine lv_aload_n hx hb dX12_findWorms_244 rfl (lv_at hl 5 rfl) ?_
              refine va_get (D := D) (ci := 12) (v := .ref (r12 11)) (C := RX12) (T := TX12) (N := 63) hx hb hts w1 hown hK.1 hP 0 rfl rfl 11 (by decide) w6 (fun _ h9 => h9) rfl dX12_findWorms_245 ?_
              refine lv_iload hx hb dX12_findWorms_248 (lv_at hl 2 rfl) ?_
              refine lv_aload_n hx hb dX12_findWorms_250 rfl (lv_at hl 5 rfl) ?_
              refine va_get (D := D) (ci := 12) (v := .int v15) (C := RX12) (T := TX12) (N := 63) hx hb hts w1 hown hK.1 hP 0 rfl rfl 13 (by decide) w2 (fun _ h9 => h9) rfl dX12_findWorms_251 ?_
              refine lv_iconst (v := 1) hx hb dX12_findWorms_254 (by decide) ?_
              refine lv_isub hx hb dX12_findWorms_255 ?_
              refine lv_topi (fun x141 e142 => ?_)
              try have h143 : x141.toInt = v15.toInt - (1 : Int32).toInt := ci_sub e142 (by omega) (by omega)
              refine va_iast hx hb hK.1 hP hD hS 4 1 rfl rfl (i := x25) (ix (by omega) (by omega)) dX12_findWorms_256 (fun H locs hP hD hS => ?_)
              obtain ⟨g144, e145⟩ : ∃ y : Nat → Int32, y = upd g16 x25.toNatClampNeg x141 := ⟨_, rfl⟩
              rw [← e145] at hP hD
              obtain ⟨hP, hD⟩ : PD D A [O12 a12 r12 v12_keptMany v12_done v12_sheets v12_holes v15 v12_laidMany v12_wanted v12_orderMany v12_firstOrder v12_lines v12_marks v12_dots v12_madeIn v12_bound v12_places v12_maps v12_tapeMany v12_stories v12_base v12_at v12_ends v12_fault v12_opened v12_bodies v12_ran v12_ownKind v12_ownNumber, (cI κ (r12 8) 40 f12_sheetOf), (cI κ (r12 9) 40 f12_placeOf), (cI κ (r12 10) 40 g3), (cI κ (r12 11) 40 g144), (cI κ (r12 12) 40 g139)] H := ⟨hP, hD⟩
              have hs3 := e145
              obtain ⟨x146, e147⟩ : ∃ y : Int32, y = k14 + 1 := ⟨_, rfl⟩
              refine lv_iinc (v := x146) (lv' := [(4, .int x146), (7, .int 1), (6, .int x31), (5, .int x25), (3, .int k2), (0, .ref a12), (1, .int p1), (2, .int p2)]) hx hb dX12_findWorms_257 hl (k := 3) rfl (by rw [e147]; rfl) (by decide) rfl (fun ls hl => ?_)
              try have h148 : x146.toInt = k14.toInt + (1 : Int32).toInt := ci_add e147 (by omega) (by omega)
              refine lv_goto (tgt := 113) hx hb dX12_findWorms_260 (by decide) ?_
              exact ih113 x146 v15 g144 g139 h18 (by omega) (by omega) (by omega) (by first | exact wi_start (by omega) (by omega) | exact wi_new hTW (by omega) (by omega) (by omega) hnw (by omega) hs2 (by omega) hy9 hz9 hbt hs3 (by rw [hho]) (by omega) | exact wi_old hTW (by omega) (by omega) (by omega) (by omega) (by omega) (by omega) hs2 (by omega) hy9 hz9 hbt hs3 (by rw [hho]) (by omega)) (by omega) _ _ hP hD hS _ (lv_sub hl [0, 4, 5, 6, 7] rfl)
            have c131 := ci_eq c131
            exfalso
            omega
        exact lp113 ((k2.toInt - (0 : Int32).toInt).toNat + 1) 0 0 g5 f12_wormSheets h13 (by omega) (by omega) (by omega) (by first | exact wi_start (by omega) (by omega) | exact wi_new hTW (by omega) (by omega) (by omega) hnw (by omega) hs2 (by omega) hy9 hz9 hbt hs3 (by rw [hho]) (by omega) | exact wi_old hTW (by omega) (by omega) (by omega) (by omega) (by omega) (by omega) hs2 (by omega) hy9 hz9 hbt hs3 (by rw [hho]) (by omega)) (by omega) _ _ hP hD hS _ hl
      have c12 := ci_nle c12
      refine lv_aload_n hx hb dX12_findWorms_14 rfl (lv_at hl 2 rfl) ?_
      refine va_get (D := D) (ci := 12) (v := .ref (r12 11)) (C := RX12) (T := TX12) (N := 63) hx hb hts w1 hown hK.1 hP 0 rfl rfl 11 (by decide) w6 (fun _ h9 => h9) rfl dX12_findWorms_15 ?_
      refine lv_iload hx hb dX12_findWorms_18 (lv_at hl 0 rfl) ?_
      refine lv_iconst (v := (-1)) hx hb dX12_findWorms_20 (by decide) ?_
      refine va_iast hx hb hK.1 hP hD hS 4 1 rfl rfl (i := k1) (ix (by omega) (by omega)) dX12_findWorms_21 (fun H locs hP hD hS => ?_)
      obtain ⟨g149, e150⟩ : ∃ y : Nat → Int32, y = upd g5 k1.toNatClampNeg (-1) := ⟨_, rfl⟩
      rw [← e150] at hP hD
      obtain ⟨hP, hD⟩ : PD D A [O12 a12 r12 v12_keptMany v12_done v12_sheets v12_holes v12_worms v12_laidMany v12_wanted v12_orderMany v12_firstOrder v12_lines v12_marks v12_dots v12_madeIn v12_bound v12_places v12_maps v12_tapeMany v12_stories v12_base v12_at v12_ends v12_fault v12_opened v12_bodies v12_ran v12_ownKind v12_ownNumber, (cI κ (r12 8) 40 f12_sheetOf), (cI κ (r12 9) 40 f12_placeOf), (cI κ (r12 10) 40 g3), (cI κ (r12 11) 40 g149), (cI κ (r12 12) 40 f12_wormSheets)] H := ⟨hP, hD⟩
      refine lv_aload_n hx hb dX12_findWorms_22 rfl (lv_at hl 2 rfl) ?_
      refine va_get (D := D) (ci := 12) (v := .ref (r12 8)) (C := RX12) (T := TX12) (N := 63) hx hb hts w1 hown hK.1 hP 0 rfl rfl 8 (by decide) w4 (fun _ h9 => h9) rfl dX12_findWorms_23 ?_
      refine lv_iload hx hb dX12_findWorms_26 (lv_at hl 0 rfl) ?_
      refine va_iald hx hb hK.1 hP 1 1 rfl rfl (i := k1) (ix (by omega) (by omega)) dX12_findWorms_28 ?_
      refine lv_topi (fun x151 e152 => ?_)
      have h153 : 0 ≤ x151.toInt ∧ x151.toInt ≤ 7 := by rw [e152]; exact hf12_sheetOf _
      have hsh0 := e152
      refine lv_iload_n hx hb dX12_findWorms_29 rfl (lv_at hl 4 rfl) ?_
      refine lv_icmp_eq (tgt := 99) hx hb dX12_findWorms_30 (by decide) (fun c154 => ?_) (fun c154 => ?_)
      · have c154 := ci_eq c154
        obtain ⟨x155, e156⟩ : ∃ y : Int32, y = k1 + 1 := ⟨_, rfl⟩
        refine lv_iinc (v := x155) (lv' := [(4, .int x155), (3, .int k2), (0, .ref a12), (1, .int p1), (2, .int p2)]) hx hb dX12_findWorms_99 hl (k := 0) rfl (by rw [e156]; rfl) (by decide) rfl (fun ls hl => ?_)
        try have h157 : x155.toInt = k1.toInt + (1 : Int32).toInt := ci_add e156 (by omega) (by omega)
        refine lv_goto (tgt := 5) hx hb dX12_findWorms_102 (by decide) ?_
        exact ih5 x155 k2 g3 g149 h4 (by omega) (by omega) (by omega) (by first | exact kl_start (by decide) | exact kl_next hso hsl (by omega) (by omega) (by omega) hkp hbp9 | exact kl_skip hso (by omega) (by omega) (kp9_no hsh0 (by omega))) (by first | exact kl_len0 (by decide) (by decide) | exact kl_lenN hsl (by omega) (by omega) hkp (by omega) | exact kl_lenS hsl (by omega) (by omega) (kp9_no hsh0 (by omega))) (by omega) _ _ hP hD hS _ hl
      have c154 := ci_ne c154
      have hkp := kp9_yes (x := p2) hsh0 (by omega)
      refine lv_iload_n hx hb dX12_findWorms_33 rfl (lv_at hl 1 rfl) ?_
      refine lv_istore (lv' := [(5, .int k2), (4, .int k1), (3, .int k2), (0, .ref a12), (1, .int p1), (2, .int p2)]) hx hb dX12_findWorms_34 hl (by decide) rfl (fun ls hl => ?_)
      have lp36 : ∀ (n36 : Nat) (k158 : Int32) (g159 : Nat → Int32), (∀ j : Nat, 0 ≤ (g159 j).toInt ∧ (g159 j).toInt ≤ 39) → (0 ≤ k158.toInt ∧ k158.toInt ≤ k2.toInt) → (g159 = shF g3 k2.toInt.toNat k158.toInt.toNat) → (insA f12_placeOf g3 (f12_placeOf k1.toNatClampNeg).toInt k2.toInt.toNat = insA f12_placeOf g3 (f12_placeOf k1.toNatClampNeg).toInt k158.toInt.toNat) → (k158.toInt).toNat < n36 → ∀ (H : Heap) (locs : List Loc), va_P D vwCl [O12 a12 r12 v12_keptMany v12_done v12_sheets v12_holes v12_worms v12_laidMany v12_wanted v12_orderMany v12_firstOrder v12_lines v12_marks v12_dots v12_madeIn v12_bound v12_places v12_maps v12_tapeMany v12_stories v12_base v12_at v12_ends v12_fault v12_opened v12_bodies v12_ran v12_ownKind v12_ownNumber, (cI κ (r12 8) 40 f12_sheetOf), (cI κ (r12 9) 40 f12_placeOf), (cI κ (r12 10) 40 g159), (cI κ (r12 11) 40 g149), (cI κ (r12 12) 40 f12_wormSheets)] H → va_D A [O12 a12 r12 v12_keptMany v12_done v12_sheets v12_holes v12_worms v12_laidMany v12_wanted v12_orderMany v12_firstOrder v12_lines v12_marks v12_dots v12_madeIn v12_bound v12_places v12_maps v12_tapeMany v12_stories v12_base v12_at v12_ends v12_fault v12_opened v12_bodies v12_ran v12_ownKind v12_ownNumber, (cI κ (r12 8) 40 f12_sheetOf), (cI κ (r12 9) 40 f12_placeOf), (cI κ (r12 10) 40 g159), (cI κ (r12 11) 40 g149), (cI κ (r12 12) 40 f12_wormSheets)] → va_S A s.heap H locs → ∀ ls : Array Slot, lv_has ls 8 [(5, .int k158), (4, .int k1), (3, .int k2), (0, .ref a12), (1, .int p1), (2, .int p2)] → W p l e ({ frames := 0, cells := 0, slots := 0, locals := 0 } : Room) s m args below meth c H locs 0 0 Q (F0 m 36 ls []) := by
        intro n36
        induction n36 with
        | zero =>
          intro k158 g159 h160 h161 h162 h163 m164
          exact absurd m164 (Nat.not_lt_zero _)
        | succ n36 ih36 =>
          intro k158 g159 h160 h161 h162 h163 m164 H locs hP hD hS ls hl
          have hsh : g159 = shF g3 k2.toInt.toNat k158.toInt.toNat := by assumption
          have hinq : insA f12_placeOf g3 (f12_placeOf k1.toNatClampNeg).toInt k2.toInt.toNat = insA f12_placeOf g3 (f12_placeOf k1.toNatClampNeg).toInt k158.toInt.toNat := by assumption
          obtain ⟨f0, hf0⟩ : ∃ f : Nat → Int32, f = g3 := ⟨_, rfl⟩
          have hshf := hsh
          have hinf := hinq
          rw [← hf0] at hshf hinf
          refine lv_iload hx hb dX12_findWorms_36 (lv_at hl 0 rfl) ?_
          refine lv_if_le (tgt := 87) hx hb dX12_findWorms_38 (by decide) (fun c165 => ?_) (fun c165 => ?_)
          · have c165 := ci_le c165
            have hAq : insA f12_placeOf f0 (f12_placeOf k1.toNatClampNeg).toInt k2.toInt.toNat = k158.toNatClampNeg := by first | exact ins_end0 hinf (by omega) | exact ins_end hinf hshf (by omega) (by omega)
            refine lv_aload_n hx hb dX12_findWorms_87 rfl (lv_at hl 3 rfl) ?_
            refine va_get (D := D) (ci := 12) (v := .ref (r12 10)) (C := RX12) (T := TX12) (N := 63) hx hb hts w1 hown hK.1 hP 0 rfl rfl 10 (by decide) w3 (fun _ h9 => h9) rfl dX12_findWorms_88 ?_
            refine lv_iload hx hb dX12_findWorms_91 (lv_at hl 0 rfl) ?_
            refine lv_iload hx hb dX12_findWorms_93 (lv_at hl 1 rfl) ?_
            refine va_iast hx hb hK.1 hP hD hS 3 1 rfl rfl (i := k158) (ix (by omega) (by omega)) dX12_findWorms_95 (fun H locs hP hD hS => ?_)
            obtain ⟨g166, e167⟩ : ∃ y : Nat → Int32, y = upd g159 k158.toNatClampNeg k1 := ⟨_, rfl⟩
            rw [← e167] at hP hD
            obtain ⟨hP, hD⟩ : PD D A [O12 a12 r12 v12_keptMany v12_done v12_sheets v12_holes v12_worms v12_laidMany v12_wanted v12_orderMany v12_firstOrder v12_lines v12_marks v12_dots v12_madeIn v12_bound v12_places v12_maps v12_tapeMany v12_stories v12_base v12_at v12_ends v12_fault v12_opened v12_bodies v12_ran v12_ownKind v12_ownNumber, (cI κ (r12 8) 40 f12_sheetOf), (cI κ (r12 9) 40 f12_placeOf), (cI κ (r12 10) 40 g166), (cI κ (r12 11) 40 g149), (cI κ (r12 12) 40 f12_wormSheets)] H := ⟨hP, hD⟩
            have h168 : ∀ j : Nat, 0 ≤ (g166 j).toInt ∧ (g166 j).toInt ≤ 39 := by rw [e167]; exact all_upd (P := fun z => 0 ≤ z.toInt ∧ z.toInt ≤ 39) h160 (by omega)
            have hbp9 := e167.trans (ins_put hAq hshf)
            rw [hf0] at hbp9
            obtain ⟨x169, e170⟩ : ∃ y : Int32, y = k2 + 1 := ⟨_, rfl⟩
            refine lv_iinc (v := x169) (lv' := [(3, .int x169), (5, .int k158), (4, .int k1), (0, .ref a12), (1, .int p1), (2, .int p2)]) hx hb dX12_findWorms_96 hl (k := 2) rfl (by rw [e170]; rfl) (by decide) rfl (fun ls hl => ?_)
            try have h171 : x169.toInt = k2.toInt + (1 : Int32).toInt := ci_add e170 (by omega) (by omega)
            obtain ⟨x172, e173⟩ : ∃ y : Int32, y = k1 + 1 := ⟨_, rfl⟩
            refine lv_iinc (v := x172) (lv' := [(4, .int x172), (3, .int x169), (5, .int k158), (0, .ref a12), (1, .int p1), (2, .int p2)]) hx hb dX12_findWorms_99 hl (k := 2) rfl (by rw [e173]; rfl) (by decide) rfl (fun ls hl => ?_)
            try have h174 : x172.toInt = k1.toInt + (1 : Int32).toInt := ci_add e173 (by omega) (by omega)
            refine lv_goto (tgt := 5) hx hb dX12_findWorms_102 (by decide) ?_
            exact ih5 x172 x169 g166 g149 h168 (by omega) (by omega) (by omega) (by first | exact kl_start (by decide) | exact kl_next hso hsl (by omega) (by omega) (by omega) hkp hbp9 | exact kl_skip hso (by omega) (by omega) (kp9_no hsh0 (by omega))) (by first | exact kl_len0 (by decide) (by decide) | exact kl_lenN hsl (by omega) (by omega) hkp (by omega) | exact kl_lenS hsl (by omega) (by omega) (kp9_no hsh0 (by omega))) (by omega) _ _ hP hD hS _ (lv_sub hl [0, 1, 3, 4, 5] rfl)
          have c165 := ci_nle c165
          refine lv_aload_n hx hb dX12_findWorms_41 rfl (lv_at hl 3 rfl) ?_
          refine va_get (D := D) (ci := 12) (v := .ref (r12 9)) (C := RX12) (T := TX12) (N := 63) hx hb hts w1 hown hK.1 hP 0 rfl rfl 9 (by decide) w7 (fun _ h9 => h9) rfl dX12_findWorms_42 ?_
          refine lv_aload_n hx hb dX12_findWorms_45 rfl (lv_at hl 3 rfl) ?_
          refine va_get (D := D) (ci := 12) (v := .ref (r12 10)) (C := RX12) (T := TX12) (N := 63) hx hb hts w1 hown hK.1 hP 0 rfl rfl 10 (by decide) w3 (fun _ h9 => h9) rfl dX12_findWorms_46 ?_
          refine lv_iload hx hb dX12_findWorms_49 (lv_at hl 0 rfl) ?_
          refine lv_iconst (v := 1) hx hb dX12_findWorms_51 (by decide) ?_
          refine lv_isub hx hb dX12_findWorms_52 ?_
          refine lv_topi (fun x175 e176 => ?_)
          try have h177 : x175.toInt = k158.toInt - (1 : Int32).toInt := ci_sub e176 (by omega) (by omega)
          refine va_iald hx hb hK.1 hP 3 1 rfl rfl (i := x175) (ix (by omega) (by omega)) dX12_findWorms_53 ?_
          refine lv_topi (fun x178 e179 => ?_)
          have h180 : 0 ≤ x178.toInt ∧ x178.toInt ≤ 39 := by rw [e179]; exact h160 _
          have hl1 := ld_at (k := k158) e179 (by omega) (by omega)
          refine va_iald hx hb hK.1 hP 2 1 rfl rfl (i := x178) (ix (by omega) (by omega)) dX12_findWorms_54 ?_
          refine lv_topi (fun x181 e182 => ?_)
          have h183 : 0 ≤ x181.toInt ∧ x181.toInt ≤ 999 := by rw [e182]; exact hf12_placeOf _
          have hl2 : x181.toInt = (f12_placeOf (g159 (k158.toInt - 1).toNat).toNatClampNeg).toInt := by rw [e182, hl1]
          refine lv_aload_n hx hb dX12_findWorms_55 rfl (lv_at hl 3 rfl) ?_
          refine va_get (D := D) (ci := 12) (v := .ref (r12 9)) (C := RX12) (T := TX12) (N := 63) hx hb hts w1 hown hK.1 hP 0 rfl rfl 9 (by decide) w7 (fun _ h9 => h9) rfl dX12_findWorms_56 ?_
          refine lv_iload hx hb dX12_findWorms_59 (lv_at hl 1 rfl) ?_
          refine va_iald hx hb hK.1 hP 2 1 rfl rfl (i := k1) (ix (by omega) (by omega)) dX12_findWorms_61 ?_
          refine lv_topi (fun x184 e185 => ?_)
          have h186 : 0 ≤ x184.toInt ∧ x184.toInt ≤ 999 := by rw [e185]; exact hf12_placeOf _
          have hl4 : x184.toInt = (f12_placeOf k1.toNatClampNeg).toInt := congrArg Int32.toInt e185
          refine lv_icmp_le (tgt := 87) hx hb dX12_findWorms_62 (by decide) (fun c187 => ?_) (fun c187 => ?_)
          · have c187 := ci_le c187
            have hAq : insA f12_placeOf f0 (f12_placeOf k1.toNatClampNeg).toInt k2.toInt.toNat = k158.toNatClampNeg := by first | exact ins_end0 hinf (by omega) | exact ins_end hinf hshf (by omega) (by omega)
            refine lv_aload_n hx hb dX12_findWorms_87 rfl (lv_at hl 3 rfl) ?_
            refine va_get (D := D) (ci := 12) (v := .ref (r12 10)) (C := RX12) (T := TX12) (N := 63) hx hb hts w1 hown hK.1 hP 0 rfl rfl 10 (by decide) w3 (fun _ h9 => h9) rfl dX12_findWorms_88 ?_
            refine lv_iload hx hb dX12_findWorms_91 (lv_at hl 0 rfl) ?_
            refine lv_iload hx hb dX12_findWorms_93 (lv_at hl 1 rfl) ?_
            refine va_iast hx hb hK.1 hP hD hS 3 1 rfl rfl (i := k158) (ix (by omega) (by omega)) dX12_findWorms_95 (fun H locs hP hD hS => ?_)
            obtain ⟨g188, e189⟩ : ∃ y : Nat → Int32, y = upd g159 k158.toNatClampNeg k1 := ⟨_, rfl⟩
            rw [← e189] at hP hD
            obtain ⟨hP, hD⟩ : PD D A [O12 a12 r12 v12_keptMany v12_done v12_sheets v12_holes v12_worms v12_laidMany v12_wanted v12_orderMany v12_firstOrder v12_lines v12_marks v12_dots v12_madeIn v12_bound v12_places v12_maps v12_tapeMany v12_stories v12_base v12_at v12_ends v12_fault v12_opened v12_bodies v12_ran v12_ownKind v12_ownNumber, (cI κ (r12 8) 40 f12_sheetOf), (cI κ (r12 9) 40 f12_placeOf), (cI κ (r12 10) 40 g188), (cI κ (r12 11) 40 g149), (cI κ (r12 12) 40 f12_wormSheets)] H := ⟨hP, hD⟩
            have h190 : ∀ j : Nat, 0 ≤ (g188 j).toInt ∧ (g188 j).toInt ≤ 39 := by rw [e189]; exact all_upd (P := fun z => 0 ≤ z.toInt ∧ z.toInt ≤ 39) h160 (by omega)
            have hbp9 := e189.trans (ins_put hAq hshf)
            rw [hf0] at hbp9
            obtain ⟨x191, e192⟩ : ∃ y : Int32, y = k2 + 1 := ⟨_, rfl⟩
            refine lv_iinc (v := x191) (lv' := [(3, .int x191), (5, .int k158), (4, .int k1), (0, .ref a12), (1, .int p1), (2, .int p2)]) hx hb dX12_findWorms_96 hl (k := 2) rfl (by rw [e192]; rfl) (by decide) rfl (fun ls hl => ?_)
            try have h193 : x191.toInt = k2.toInt + (1 : Int32).toInt := ci_add e192 (by omega) (by omega)
            obtain ⟨x194, e195⟩ : ∃ y : Int32, y = k1 + 1 := ⟨_, rfl⟩
            refine lv_iinc (v := x194) (lv' := [(4, .int x194), (3, .int x191), (5, .int k158), (0, .ref a12), (1, .int p1), (2, .int p2)]) hx hb dX12_findWorms_99 hl (k := 2) rfl (by rw [e195]; rfl) (by decide) rfl (fun ls hl => ?_)
            try have h196 : x194.toInt = k1.toInt + (1 : Int32).toInt := ci_add e195 (by omega) (by omega)
            refine lv_goto (tgt := 5) hx hb dX12_findWorms_102 (by decide) ?_
            exact ih5 x194 x191 g188 g149 h190 (by omega) (by omega) (by omega) (by first | exact kl_start (by decide) | exact kl_next hso hsl (by omega) (by omega) (by omega) hkp hbp9 | exact kl_skip hso (by omega) (by omega) (kp9_no hsh0 (by omega))) (by first | exact kl_len0 (by decide) (by decide) | exact kl_lenN hsl (by omega) (by omega) hkp (by omega) | exact kl_lenS hsl (by omega) (by omega) (kp9_no hsh0 (by omega))) (by omega) _ _ hP hD hS _ (lv_sub hl [0, 1, 3, 4, 5] rfl)
          have c187 := ci_nle c187
          refine lv_aload_n hx hb dX12_findWorms_65 rfl (lv_at hl 3 rfl) ?_
          refine va_get (D := D) (ci := 12) (v := .ref (r12 10)) (C := RX12) (T := TX12) (N := 63) hx hb hts w1 hown hK.1 hP 0 rfl rfl 10 (by decide) w3 (fun _ h9 => h9) rfl dX12_findWorms_66 ?_
          refine lv_iload hx hb dX12_findWorms_69 (lv_at hl 0 rfl) ?_
          refine lv_aload_n hx hb dX12_findWorms_71 rfl (lv_at hl 3 rfl) ?_
          refine va_get (D := D) (ci := 12) (v := .ref (r12 10)) (C := RX12) (T := TX12) (N := 63) hx hb hts w1 hown hK.1 hP 0 rfl rfl 10 (by decide) w3 (fun _ h9 => h9) rfl dX12_findWorms_72 ?_
          refine lv_iload hx hb dX12_findWorms_75 (lv_at hl 0 rfl) ?_
          refine lv_iconst (v := 1) hx hb dX12_findWorms_77 (by decide) ?_
          refine lv_isub hx hb dX12_findWorms_78 ?_
          refine lv_topi (fun x197 e198 => ?_)
          try have h199 : x197.toInt = k158.toInt - (1 : Int32).toInt := ci_sub e198 (by omega) (by omega)
          refine va_iald hx hb hK.1 hP 3 1 rfl rfl (i := x197) (ix (by omega) (by omega)) dX12_findWorms_79 ?_
          refine lv_topi (fun x200 e201 => ?_)
          have h202 : 0 ≤ x200.toInt ∧ x200.toInt ≤ 39 := by rw [e201]; exact h160 _
          have hl3 := ld_at (k := k158) e201 (by omega) (by omega)
          refine va_iast hx hb hK.1 hP hD hS 3 1 rfl rfl (i := k158) (ix (by omega) (by omega)) dX12_findWorms_80 (fun H locs hP hD hS => ?_)
          obtain ⟨g203, e204⟩ : ∃ y : Nat → Int32, y = upd g159 k158.toNatClampNeg x200 := ⟨_, rfl⟩
          rw [← e204] at hP hD
          obtain ⟨hP, hD⟩ : PD D A [O12 a12 r12 v12_keptMany v12_done v12_sheets v12_holes v12_worms v12_laidMany v12_wanted v12_orderMany v12_firstOrder v12_lines v12_marks v12_dots v12_madeIn v12_bound v12_places v12_maps v12_tapeMany v12_stories v12_base v12_at v12_ends v12_fault v12_opened v12_bodies v12_ran v12_ownKind v12_ownNumber, (cI κ (r12 8) 40 f12_sheetOf), (cI κ (r12 9) 40 f12_placeOf), (cI κ (r12 10) 40 g203), (cI κ (r12 11) 40 g149), (cI κ (r12 12) 40 f12_wormSheets)] H := ⟨hP, hD⟩
          have h205 : ∀ j : Nat, 0 ≤ (g203 j).toInt ∧ (g203 j).toInt ≤ 39 := by rw [e204]; exact all_upd (P := fun z => 0 ≤ z.toInt ∧ z.toInt ≤ 39) h160 (by omega)
          have hst9 := e204
          obtain ⟨x206, e207⟩ : ∃ y : Int32, y = k158 + (-1) := ⟨_, rfl⟩
          refine lv_iinc (v := x206) (lv' := [(5, .int x206), (4, .int k1), (3, .int k2), (0, .ref a12), (1, .int p1), (2, .int p2)]) hx hb dX12_findWorms_81 hl (k := 0) rfl (by rw [e207]; rfl) (by decide) rfl (fun ls hl => ?_)
          try have h208 : x206.toInt = k158.toInt + ((-1) : Int32).toInt := ci_add e207 (by omega) (by omega)
          refine lv_goto (tgt := 36) hx hb dX12_findWorms_84 (by decide) ?_
          exact ih36 x206 g203 h205 (by omega) (by first | exact shF_self (by omega) | exact sh_step hsh (by omega) (by omega) (by omega) hl3 hst9) (by first | exact congrArg (insA _ _ _) (by omega) | exact ins_go hinq hsh (by omega) (by omega) (by omega)) (by omega) _ _ hP hD hS _ hl
      exact lp36 ((k2.toInt).toNat + 1) k2 g3 h4 (by omega) (by first | exact shF_self (by omega) | exact sh_step hsh (by omega) (by omega) (by omega) hl3 hst9) (by first | exact congrArg (insA _ _ _) (by omega) | exact ins_go hinq hsh (by omega) (by omega) (by omega)) (by omega) _ _ hP hD hS _ hl
  exact lp5 ((v12_holes.toInt - (0 : Int32).toInt).toNat + 1) 0 0 f12_sorted f12_wormOf hf12_sorted (by omega) (by omega) (by omega) (by first | exact kl_start (by decide) | exact kl_next hso hsl (by omega) (by omega) (by omega) hkp hbp9 | exact kl_skip hso (by omega) (by omega) (kp9_no hsh0 (by omega))) (by first | exact kl_len0 (by decide) (by decide) | exact kl_lenN hsl (by omega) (by omega) hkp (by omega) | exact kl_lenS hsl (by omega) (by omega) (kp9_no hsh0 (by omega))) (by omega) _ _ hP hD hS _ hl
set_option maxHeartbeats 4000000 in
set_option maxRecDepth 100000 in
theorem k_X12_worms (l : Launch) (D : va_G) (κ : Nat → ClassId) (β : Nat) (a12 : Nat) (r12 : Nat → Nat) (v12_keptMany : Int32) (v12_done : Int32) (v12_sheets : Int32) (v12_holes : Int32) (v12_worms : Int32) (v12_laidMany : Int32) (v12_wanted : Int32) (v12_orderMany : Int32) (v12_firstOrder : Int32) (v12_lines : Int32) (v12_marks : Int32) (v12_dots : Int32) (v12_madeIn : Int32) (v12_bound : Int32) (v12_places : Int32) (v12_maps : Int32) (v12_tapeMany : Int32) (v12_stories : Int32) (v12_base : Int32) (v12_at : Int32) (v12_ends : Int32) (v12_fault : Int32) (v12_opened : Int32) (v12_bodies : Int32) (v12_ran : Int32) (v12_ownKind : Int32) (v12_ownNumber : Int32) (f12_sheetOf : Nat → Int32) (f12_placeOf : Nat → Int32) (f12_sorted : Nat → Int32) (f12_wormOf : Nat → Int32) (f12_wormSheets : Nat → Int32) (sz : Nat) (p1 : Int32) (p2 : Int32) (i1 : Rg 0 40 v12_keptMany) (i2 : Rg 0 40 v12_done) (i3 : Rg 0 8 v12_sheets) (i4 : Rg 0 40 v12_holes) (i5 : Rg 0 40 v12_worms) (i6 : Rg 0 8 v12_laidMany) (i7 : Rg 0 8 v12_wanted) (i8 : Rg 0 20 v12_lines) (i9 : Rg 0 60 v12_marks) (i10 : Rg 0 40 v12_dots) (i11 : Rg 0 20 v12_places) (i12 : Rg 0 8 v12_maps) (i13 : Rg 0 120 v12_tapeMany) (i14 : Rg 0 6 v12_stories) (i15 : Rg 0 50 v12_bodies) (i16 : Rg 0 1000 v12_ran) (hf12_sheetOf : ∀ j : Nat, 0 ≤ (f12_sheetOf j).toInt ∧ (f12_sheetOf j).toInt ≤ 7) (hf12_placeOf : ∀ j : Nat, 0 ≤ (f12_placeOf j).toInt ∧ (f12_placeOf j).toInt ≤ 999) (hf12_sorted : ∀ j : Nat, 0 ≤ (f12_sorted j).toInt ∧ (f12_sorted j).toInt ≤ 39) (i17 : v12_done.toInt ≤ v12_keptMany.toInt) : Met l yX12_worms wsX12_worms ({ frames := 2, cells := 0, slots := 0, locals := 45 } : Room) (PcK D κ β [O12 a12 r12 v12_keptMany v12_done v12_sheets v12_holes v12_worms v12_laidMany v12_wanted v12_orderMany v12_firstOrder v12_lines v12_marks v12_dots v12_madeIn v12_bound v12_places v12_maps v12_tapeMany v12_stories v12_base v12_at v12_ends v12_fault v12_opened v12_bodies v12_ran v12_ownKind v12_ownNumber, (cI κ (r12 8) 40 f12_sheetOf), (cI κ (r12 9) 40 f12_placeOf), (cI κ (r12 10) 40 f12_sorted), (cI κ (r12 11) 40 f12_wormOf), (cI κ (r12 12) 40 f12_wormSheets)] sz [.ref a12, .int p1, .int p2]) (QiK D (fun (r : Int32) (u : Int32 × (Nat → Int32) × (Nat → Int32) × (Nat → Int32)) => (0 ≤ u.1.toInt ∧ u.1.toInt ≤ 40) ∧ (∀ j : Nat, 0 ≤ (u.2.1 j).toInt ∧ (u.2.1 j).toInt ≤ 39) ∧ ((¬ (0 ≤ p1.toInt ∧ p1.toInt ≤ 99 ∧ -1 ≤ p2.toInt) ∧ r.toInt = -1) ∨ ((0 ≤ p1.toInt ∧ p1.toInt ≤ 99 ∧ -1 ≤ p2.toInt) ∧ r.toInt = wormsR f12_sheetOf f12_placeOf v12_holes.toInt.toNat p1.toInt p2.toInt))) (fun (u : Int32 × (Nat → Int32) × (Nat → Int32) × (Nat → Int32)) => [O12 a12 r12 v12_keptMany v12_done v12_sheets v12_holes u.1 v12_laidMany v12_wanted v12_orderMany v12_firstOrder v12_lines v12_marks v12_dots v12_madeIn v12_bound v12_places v12_maps v12_tapeMany v12_stories v12_base v12_at v12_ends v12_fault v12_opened v12_bodies v12_ran v12_ownKind v12_ownNumber, (cI κ (r12 8) 40 f12_sheetOf), (cI κ (r12 9) 40 f12_placeOf), (cI κ (r12 10) 40 u.2.1), (cI κ (r12 11) 40 u.2.2.1), (cI κ (r12 12) 40 u.2.2.2)]) [O12 a12 r12 v12_keptMany v12_done v12_sheets v12_holes v12_worms v12_laidMany v12_wanted v12_orderMany v12_firstOrder v12_lines v12_marks v12_dots v12_madeIn v12_bound v12_places v12_maps v12_tapeMany v12_stories v12_base v12_at v12_ends v12_fault v12_opened v12_bodies v12_ran v12_ownKind v12_ownNumber, (cI κ (r12 8) 40 f12_sheetOf), (cI κ (r12 9) 40 f12_placeOf), (cI κ (r12 10) 40 f12_sorted), (cI κ (r12 11) 40 f12_wormOf), (cI κ (r12 12) 40 f12_wormSheets)] sz) 0 0 (va_A [O12 a12 r12 v12_keptMany v12_done v12_sheets v12_holes v12_worms v12_laidMany v12_wanted v12_orderMany v12_firstOrder v12_lines v12_marks v12_dots v12_madeIn v12_bound v12_places v12_maps v12_tapeMany v12_stories v12_base v12_at v12_ends v12_fault v12_opened v12_bodies v12_ran v12_ownKind v12_ownNumber, (cI κ (r12 8) 40 f12_sheetOf), (cI κ (r12 9) 40 f12_placeOf), (cI κ (r12 10) 40 f12_sorted), (cI κ (r12 11) 40 f12_wormOf), (cI κ (r12 12) 40 f12_wormSheets)] sz) := by
  refine ofK_i (cc := cX12_worms) (maxL := 3) (own := RX12) (by decide) rfl rfl (Nat.le_of_ble_eq_true rfl) ?_
  intro p e s m args below meth c Q A ls hsz hx hb hml hts hown hK hA hAB hP hD hl ret
  have hS : va_S A s.heap s.heap [] := va_S.rf
  have hl : lv_has ls 3 [(0, .ref a12), (1, .int p1), (2, .int p2)] := hl
  have w0 := hts (.fieldLink RX12 160 "OlderSkinModel" "worms" "I") (List.mem_of_getElem? (i := 1) rfl)
  have w1 := (fun w h => List.mem_cons_of_mem _ (List.mem_append_right _ h) : ∀ w ∈ u_ws RX12 TX12 63, w ∈ wsX12_worms)
  have w2 := hts (.fieldLink RX12 34 "OlderSkinModel" "wormSheets" "[I") (List.mem_of_getElem? (i := 2) rfl)
  have l0 : (0 : Int32).toInt = 0 := by decide
  have l1 : ((-1) : Int32).toInt = -1 := by decide
  have i4 : 0 ≤ v12_holes.toInt ∧ v12_holes.toInt ≤ 40 := i4
  have i5 : 0 ≤ v12_worms.toInt ∧ v12_worms.toInt ≤ 40 := i5
  refine lv_iload_n hx hb dX12_worms_0 rfl (lv_at hl 1 rfl) ?_
  refine kcm_i hA hAB hP hD hS [false, false, false, false, false, false] rfl (fun _ => rfl) (fun hPc hDc => va_runS (As := [.int p1]) (rest := []) ⟨hx, hb, hml, hown, hts⟩ (k_X12_isSlack l D κ β s.heap.size p1) (va_cwS 1 hts gX12_worms_X12_isSlack rfl rfl rfl (by decide +kernel) ⟨Nat.le_of_ble_eq_true rfl, Nat.le_of_ble_eq_true rfl⟩) (pk_S hK hS hAB hPc hDc) rfl rfl hl.1 rfl (lv_room (Nat.le_of_ble_eq_true rfl)) dX12_worms_1 ⟨Nat.le_of_ble_eq_true rfl, Nat.le_of_ble_eq_true rfl⟩) (fun x1 u2 H locs hw hPD hS => ?_)
  have h3 : (x1.toInt = 1 ∧ 0 ≤ p1.toInt ∧ p1.toInt ≤ 99) ∨ (x1.toInt = 0 ∧ (p1.toInt < 0 ∨ 99 < p1.toInt)) := hw
  obtain ⟨hP, hD⟩ : PD D A [O12 a12 r12 v12_keptMany v12_done v12_sheets v12_holes v12_worms v12_laidMany v12_wanted v12_orderMany v12_firstOrder v12_lines v12_marks v12_dots v12_madeIn v12_bound v12_places v12_maps v12_tapeMany v12_stories v12_base v12_at v12_ends v12_fault v12_opened v12_bodies v12_ran v12_ownKind v12_ownNumber, (cI κ (r12 8) 40 f12_sheetOf), (cI κ (r12 9) 40 f12_placeOf), (cI κ (r12 10) 40 f12_sorted), (cI κ (r12 11) 40 f12_wormOf), (cI κ (r12 12) 40 f12_wormSheets)] H := hPD
  refine lv_if_eq (tgt := 12) hx hb dX12_worms_4 (by decide) (fun c4 => ?_) (fun c4 => ?_)
  · have c4 := ci_eq c4
    refine lv_iconst (v := (-1)) hx hb dX12_worms_12 (by decide) ?_
    have hpo : (0 ≤ v12_worms.toInt ∧ v12_worms.toInt ≤ 40) ∧ (∀ j : Nat, 0 ≤ (f12_sorted j).toInt ∧ (f12_sorted j).toInt ≤ 39) ∧ ((¬ (0 ≤ p1.toInt ∧ p1.toInt ≤ 99 ∧ -1 ≤ p2.toInt) ∧ ((-1) : Int32).toInt = -1) ∨ ((0 ≤ p1.toInt ∧ p1.toInt ≤ 99 ∧ -1 ≤ p2.toInt) ∧ ((-1) : Int32).toInt = wormsR f12_sheetOf f12_placeOf v12_holes.toInt.toNat p1.toInt p2.toInt)) := ⟨i5, hf12_sorted, (by omega)⟩
    exact ret _ _ _ _ (-1) (v12_worms, f12_sorted, f12_wormOf, f12_wormSheets) dX12_worms_13 hpo hP hD hS
  have c4 := ci_ne c4
  refine lv_iload_n hx hb dX12_worms_7 rfl (lv_at hl 2 rfl) ?_
  refine lv_iconst (v := (-1)) hx hb dX12_worms_8 (by decide) ?_
  refine lv_icmp_ge (tgt := 14) hx hb dX12_worms_9 (by decide) (fun c5 => ?_) (fun c5 => ?_)
  · have c5 := ci_le c5
    refine lv_aload_n hx hb dX12_worms_14 rfl (lv_at hl 0 rfl) ?_
    refine lv_iload_n hx hb dX12_worms_15 rfl (lv_at hl 1 rfl) ?_
    refine lv_iconst (v := (-1)) hx hb dX12_worms_16 (by decide) ?_
    refine kcm_v hA hAB hP hD hS [true, true, true, true, true, true] rfl (fun _ => rfl) (fun hPc hDc => va_runV (As := [.int p1, .int (-1)]) (rest := []) ⟨hx, hb, hml, hown, hts⟩ (k_X12_findWorms_all l D κ β a12 r12 v12_keptMany v12_done v12_sheets v12_holes v12_worms v12_laidMany v12_wanted v12_orderMany v12_firstOrder v12_lines v12_marks v12_dots v12_madeIn v12_bound v12_places v12_maps v12_tapeMany v12_stories v12_base v12_at v12_ends v12_fault v12_opened v12_bodies v12_ran v12_ownKind v12_ownNumber f12_sheetOf f12_placeOf f12_sorted f12_wormOf f12_wormSheets H.size p1 (-1) i1 i2 i3 i4 i5 i6 i7 i8 i9 i10 i11 i12 i13 i14 i15 i16 hf12_sheetOf hf12_placeOf hf12_sorted i17 (by omega)) (cwV 2 hts gX12_worms_X12_findWorms rfl rfl rfl (by decide +kernel) ⟨Nat.le_of_ble_eq_true rfl, Nat.le_of_ble_eq_true rfl⟩) (pk_V hK hS hAB hPc hDc 0 (ci := 12) rfl rfl rfl) rfl rfl hl.1 rfl (lv_room (Nat.le_of_ble_eq_true rfl)) dX12_worms_17 ⟨Nat.le_of_ble_eq_true rfl, Nat.le_of_ble_eq_true rfl⟩) (fun u10 H locs hw hPD hS => ?_)
    obtain ⟨x6, g7, g8, g9⟩ := u10
    obtain ⟨h11, h12, h13⟩ : (0 ≤ x6.toInt ∧ x6.toInt ≤ 40) ∧ (∀ j : Nat, 0 ≤ (g7 j).toInt ∧ (g7 j).toInt ≤ 39) ∧ (WInv (srt f12_placeOf v12_holes.toInt.toNat) f12_sheetOf f12_placeOf p1.toInt v12_holes.toInt.toNat x6 g9 g8) := hw
    obtain ⟨hP, hD⟩ : PD D A [O12 a12 r12 v12_keptMany v12_done v12_sheets v12_holes x6 v12_laidMany v12_wanted v12_orderMany v12_firstOrder v12_lines v12_marks v12_dots v12_madeIn v12_bound v12_places v12_maps v12_tapeMany v12_stories v12_base v12_at v12_ends v12_fault v12_opened v12_bodies v12_ran v12_ownKind v12_ownNumber, (cI κ (r12 8) 40 f12_sheetOf), (cI κ (r12 9) 40 f12_placeOf), (cI κ (r12 10) 40 g7), (cI κ (r12 11) 40 g8), (cI κ (r12 12) 40 g9)] H := hPD
    have hWO := worms_of (by assumption : WInv (srt f12_placeOf v12_holes.toInt.toNat) f12_sheetOf f12_placeOf p1.toInt v12_holes.toInt.toNat x6 g9 g8)
    have hwa := hWO.1 p2.toInt
    have hwb := hWO.2.1 p2
    have hwc := hWO.2.2 p2.toInt
    refine lv_iload_n hx hb dX12_worms_20 rfl (lv_at hl 2 rfl) ?_
    refine lv_iconst (v := (-1)) hx hb dX12_worms_21 (by decide) ?_
    refine lv_icmp_ne (tgt := 32) hx hb dX12_worms_22 (by decide) (fun c14 => ?_) (fun c14 => ?_)
    · have c14 := ci_ne c14
      refine lv_iload_n hx hb dX12_worms_32 rfl (lv_at hl 2 rfl) ?_
      refine lv_aload_n hx hb dX12_worms_33 rfl (lv_at hl 0 rfl) ?_
      refine va_get (D := D) (ci := 12) (v := .int x6) (C := RX12) (T := TX12) (N := 63) hx hb hts w1 hown hK.1 hP 0 rfl rfl 13 (by decide) w0 (fun _ h9 => h9) rfl dX12_worms_34 ?_
      refine lv_icmp_ge (tgt := 49) hx hb dX12_worms_37 (by decide) (fun c15 => ?_) (fun c15 => ?_)
      · have c15 := ci_le c15
        refine lv_iconst (v := (-1)) hx hb dX12_worms_49 (by decide) ?_
        have hpo : (0 ≤ x6.toInt ∧ x6.toInt ≤ 40) ∧ (∀ j : Nat, 0 ≤ (g7 j).toInt ∧ (g7 j).toInt ≤ 39) ∧ ((¬ (0 ≤ p1.toInt ∧ p1.toInt ≤ 99 ∧ -1 ≤ p2.toInt) ∧ ((-1) : Int32).toInt = -1) ∨ ((0 ≤ p1.toInt ∧ p1.toInt ≤ 99 ∧ -1 ≤ p2.toInt) ∧ ((-1) : Int32).toInt = wormsR f12_sheetOf f12_placeOf v12_holes.toInt.toNat p1.toInt p2.toInt)) := ⟨h11, h12, (by omega)⟩
        exact ret _ _ _ _ (-1) (x6, g7, g8, g9) dX12_worms_50 hpo hP hD hS
      have c15 := ci_nle c15
      refine lv_aload_n hx hb dX12_worms_40 rfl (lv_at hl 0 rfl) ?_
      refine va_get (D := D) (ci := 12) (v := .ref (r12 12)) (C := RX12) (T := TX12) (N := 63) hx hb hts w1 hown hK.1 hP 0 rfl rfl 12 (by decide) w2 (fun _ h9 => h9) rfl dX12_worms_41 ?_
      refine lv_iload_n hx hb dX12_worms_44 rfl (lv_at hl 2 rfl) ?_
      refine va_iald hx hb hK.1 hP 5 1 rfl rfl (i := p2) (ix (by omega) (by omega)) dX12_worms_45 ?_
      refine lv_topi (fun x16 e17 => ?_)
      have hz7 : x16.toInt = (g9 p2.toNatClampNeg).toInt := congrArg Int32.toInt e17
      refine lv_goto (tgt := 50) hx hb dX12_worms_46 (by decide) ?_
      have hpo : (0 ≤ x6.toInt ∧ x6.toInt ≤ 40) ∧ (∀ j : Nat, 0 ≤ (g7 j).toInt ∧ (g7 j).toInt ≤ 39) ∧ ((¬ (0 ≤ p1.toInt ∧ p1.toInt ≤ 99 ∧ -1 ≤ p2.toInt) ∧ x16.toInt = -1) ∨ ((0 ≤ p1.toInt ∧ p1.toInt ≤ 99 ∧ -1 ≤ p2.toInt) ∧ x16.toInt = wormsR f12_sheetOf f12_placeOf v12_holes.toInt.toNat p1.toInt p2.toInt)) := ⟨h11, h12, (by omega)⟩
      exact ret _ _ _ _ x16 (x6, g7, g8, g9) dX12_worms_50 hpo hP hD hS
    have c14 := ci_eq c14
    refine lv_aload_n hx hb dX12_worms_25 rfl (lv_at hl 0 rfl) ?_
    refine va_get (D := D) (ci := 12) (v := .int x6) (C := RX12) (T := TX12) (N := 63) hx hb hts w1 hown hK.1 hP 0 rfl rfl 13 (by decide) w0 (fun _ h9 => h9) rfl dX12_worms_26 ?_
    refine lv_goto (tgt := 50) hx hb dX12_worms_29 (by decide) ?_
    have hpo : (0 ≤ x6.toInt ∧ x6.toInt ≤ 40) ∧ (∀ j : Nat, 0 ≤ (g7 j).toInt ∧ (g7 j).toInt ≤ 39) ∧ ((¬ (0 ≤ p1.toInt ∧ p1.toInt ≤ 99 ∧ -1 ≤ p2.toInt) ∧ x6.toInt = -1) ∨ ((0 ≤ p1.toInt ∧ p1.toInt ≤ 99 ∧ -1 ≤ p2.toInt) ∧ x6.toInt = wormsR f12_sheetOf f12_placeOf v12_holes.toInt.toNat p1.toInt p2.toInt)) := ⟨h11, h12, (by omega)⟩
    exact ret _ _ _ _ x6 (x6, g7, g8, g9) dX12_worms_50 hpo hP hD hS
  have c5 := ci_nle c5
  refine lv_iconst (v := (-1)) hx hb dX12_worms_12 (by decide) ?_
  have hpo : (0 ≤ v12_worms.toInt ∧ v12_worms.toInt ≤ 40) ∧ (∀ j : Nat, 0 ≤ (f12_sorted j).toInt ∧ (f12_sorted j).toInt ≤ 39) ∧ ((¬ (0 ≤ p1.toInt ∧ p1.toInt ≤ 99 ∧ -1 ≤ p2.toInt) ∧ ((-1) : Int32).toInt = -1) ∨ ((0 ≤ p1.toInt ∧ p1.toInt ≤ 99 ∧ -1 ≤ p2.toInt) ∧ ((-1) : Int32).toInt = wormsR f12_sheetOf f12_placeOf v12_holes.toInt.toNat p1.toInt p2.toInt)) := ⟨i5, hf12_sorted, (by omega)⟩
  exact ret _ _ _ _ (-1) (v12_worms, f12_sorted, f12_wormOf, f12_wormSheets) dX12_worms_13 hpo hP hD hS
set_option maxHeartbeats 4000000 in
set_option maxRecDepth 100000 in
theorem k_X12_led (l : Launch) (D : va_G) (κ : Nat → ClassId) (β : Nat) (a12 : Nat) (r12 : Nat → Nat) (v12_keptMany : Int32) (v12_done : Int32) (v12_sheets : Int32) (v12_holes : Int32) (v12_worms : Int32) (v12_laidMany : Int32) (v12_wanted : Int32) (v12_orderMany : Int32) (v12_firstOrder : Int32) (v12_lines : Int32) (v12_marks : Int32) (v12_dots : Int32) (v12_madeIn : Int32) (v12_bound : Int32) (v12_places : Int32) (v12_maps : Int32) (v12_tapeMany : Int32) (v12_stories : Int32) (v12_base : Int32) (v12_at : Int32) (v12_ends : Int32) (v12_fault : Int32) (v12_opened : Int32) (v12_bodies : Int32) (v12_ran : Int32) (v12_ownKind : Int32) (v12_ownNumber : Int32) (f12_sheetOf : Nat → Int32) (f12_placeOf : Nat → Int32) (f12_sorted : Nat → Int32) (f12_wormOf : Nat → Int32) (f12_wormSheets : Nat → Int32) (sz : Nat) (p1 : Int32) (p2 : Int32) (i1 : Rg 0 40 v12_keptMany) (i2 : Rg 0 40 v12_done) (i3 : Rg 0 8 v12_sheets) (i4 : Rg 0 40 v12_holes) (i5 : Rg 0 40 v12_worms) (i6 : Rg 0 8 v12_laidMany) (i7 : Rg 0 8 v12_wanted) (i8 : Rg 0 20 v12_lines) (i9 : Rg 0 60 v12_marks) (i10 : Rg 0 40 v12_dots) (i11 : Rg 0 20 v12_places) (i12 : Rg 0 8 v12_maps) (i13 : Rg 0 120 v12_tapeMany) (i14 : Rg 0 6 v12_stories) (i15 : Rg 0 50 v12_bodies) (i16 : Rg 0 1000 v12_ran) (hf12_sheetOf : ∀ j : Nat, 0 ≤ (f12_sheetOf j).toInt ∧ (f12_sheetOf j).toInt ≤ 7) (hf12_placeOf : ∀ j : Nat, 0 ≤ (f12_placeOf j).toInt ∧ (f12_placeOf j).toInt ≤ 999) (hf12_sorted : ∀ j : Nat, 0 ≤ (f12_sorted j).toInt ∧ (f12_sorted j).toInt ≤ 39) (i17 : v12_done.toInt ≤ v12_keptMany.toInt) : Met l yX12_led wsX12_led ({ frames := 2, cells := 0, slots := 0, locals := 46 } : Room) (PcK D κ β [O12 a12 r12 v12_keptMany v12_done v12_sheets v12_holes v12_worms v12_laidMany v12_wanted v12_orderMany v12_firstOrder v12_lines v12_marks v12_dots v12_madeIn v12_bound v12_places v12_maps v12_tapeMany v12_stories v12_base v12_at v12_ends v12_fault v12_opened v12_bodies v12_ran v12_ownKind v12_ownNumber, (cI κ (r12 8) 40 f12_sheetOf), (cI κ (r12 9) 40 f12_placeOf), (cI κ (r12 10) 40 f12_sorted), (cI κ (r12 11) 40 f12_wormOf), (cI κ (r12 12) 40 f12_wormSheets)] sz [.ref a12, .int p1, .int p2]) (QiK D (fun (r : Int32) (u : Int32 × (Nat → Int32) × (Nat → Int32) × (Nat → Int32)) => (0 ≤ u.1.toInt ∧ u.1.toInt ≤ 40) ∧ (∀ j : Nat, 0 ≤ (u.2.1 j).toInt ∧ (u.2.1 j).toInt ≤ 39) ∧ ((¬ (0 ≤ p1.toInt ∧ p1.toInt < v12_holes.toInt ∧ 0 ≤ p2.toInt ∧ p2.toInt ≤ 99) ∧ r.toInt = -1) ∨ ((0 ≤ p1.toInt ∧ p1.toInt < v12_holes.toInt ∧ 0 ≤ p2.toInt ∧ p2.toInt ≤ 99) ∧ r.toInt = ledR f12_sheetOf f12_placeOf v12_holes.toInt.toNat p2.toInt p1.toNatClampNeg))) (fun (u : Int32 × (Nat → Int32) × (Nat → Int32) × (Nat → Int32)) => [O12 a12 r12 v12_keptMany v12_done v12_sheets v12_holes u.1 v12_laidMany v12_wanted v12_orderMany v12_firstOrder v12_lines v12_marks v12_dots v12_madeIn v12_bound v12_places v12_maps v12_tapeMany v12_stories v12_base v12_at v12_ends v12_fault v12_opened v12_bodies v12_ran v12_ownKind v12_ownNumber, (cI κ (r12 8) 40 f12_sheetOf), (cI κ (r12 9) 40 f12_placeOf), (cI κ (r12 10) 40 u.2.1), (cI κ (r12 11) 40 u.2.2.1), (cI κ (r12 12) 40 u.2.2.2)]) [O12 a12 r12 v12_keptMany v12_done v12_sheets v12_holes v12_worms v12_laidMany v12_wanted v12_orderMany v12_firstOrder v12_lines v12_marks v12_dots v12_madeIn v12_bound v12_places v12_maps v12_tapeMany v12_stories v12_base v12_at v12_ends v12_fault v12_opened v12_bodies v12_ran v12_ownKind v12_ownNumber, (cI κ (r12 8) 40 f12_sheetOf), (cI κ (r12 9) 40 f12_placeOf), (cI κ (r12 10) 40 f12_sorted), (cI κ (r12 11) 40 f12_wormOf), (cI κ (r12 12) 40 f12_wormSheets)] sz) 0 0 (va_A [O12 a12 r12 v12_keptMany v12_done v12_sheets v12_holes v12_worms v12_laidMany v12_wanted v12_orderMany v12_firstOrder v12_lines v12_marks v12_dots v12_madeIn v12_bound v12_places v12_maps v12_tapeMany v12_stories v12_base v12_at v12_ends v12_fault v12_opened v12_bodies v12_ran v12_ownKind v12_ownNumber, (cI κ (r12 8) 40 f12_sheetOf), (cI κ (r12 9) 40 f12_placeOf), (cI κ (r12 10) 40 f12_sorted), (cI κ (r12 11) 40 f12_wormOf), (cI κ (r12 12) 40 f12_wormSheets)] sz) := by
  refine ofK_i (cc := cX12_led) (maxL := 3) (own := RX12) (by decide) rfl rfl (Nat.le_of_ble_eq_true rfl) ?_
  intro p e s m args below meth c Q A ls hsz hx hb hml hts hown hK hA hAB hP hD hl ret
  have hS : va_S A s.heap s.heap [] := va_S.rf
  have hl : lv_has ls 3 [(0, .ref a12), (1, .int p1), (2, .int p2)] := hl
  have w0 := hts (.fieldLink RX12 31 "OlderSkinModel" "wormOf" "[I") (List.mem_of_getElem? (i := 1) rfl)
  have w1 := (fun w h => List.mem_cons_of_mem _ (List.mem_append_right _ h) : ∀ w ∈ u_ws RX12 TX12 63, w ∈ wsX12_led)
  have l0 : (0 : Int32).toInt = 0 := by decide
  have l1 : ((-1) : Int32).toInt = -1 := by decide
  have i4 : 0 ≤ v12_holes.toInt ∧ v12_holes.toInt ≤ 40 := i4
  have i5 : 0 ≤ v12_worms.toInt ∧ v12_worms.toInt ≤ 40 := i5
  refine lv_aload_n hx hb dX12_led_0 rfl (lv_at hl 0 rfl) ?_
  refine lv_iload_n hx hb dX12_led_1 rfl (lv_at hl 1 rfl) ?_
  refine kcm_i hA hAB hP hD hS [true, false, false, false, false, false] rfl (fun _ => rfl) (fun hPc hDc => va_runV (As := [.int p1]) (rest := []) ⟨hx, hb, hml, hown, hts⟩ (k_X12_isHole l D κ β a12 r12 v12_keptMany v12_done v12_sheets v12_holes v12_worms v12_laidMany v12_wanted v12_orderMany v12_firstOrder v12_lines v12_marks v12_dots v12_madeIn v12_bound v12_places v12_maps v12_tapeMany v12_stories v12_base v12_at v12_ends v12_fault v12_opened v12_bodies v12_ran v12_ownKind v12_ownNumber s.heap.size p1 i1 i2 i3 i4 i5 i6 i7 i8 i9 i10 i11 i12 i13 i14 i15 i16 i17) (cwV 1 hts gX12_led_X12_isHole rfl rfl rfl (by decide +kernel) ⟨Nat.le_of_ble_eq_true rfl, Nat.le_of_ble_eq_true rfl⟩) (pk_V hK hS hAB hPc hDc 0 (ci := 12) rfl rfl rfl) rfl rfl hl.1 rfl (lv_room (Nat.le_of_ble_eq_true rfl)) dX12_led_2 ⟨Nat.le_of_ble_eq_true rfl, Nat.le_of_ble_eq_true rfl⟩) (fun x1 u2 H locs hw hPD hS => ?_)
  have h3 : (x1.toInt = 1 ∧ 0 ≤ p1.toInt ∧ p1.toInt < v12_holes.toInt) ∨ (x1.toInt = 0 ∧ (p1.toInt < 0 ∨ v12_holes.toInt ≤ p1.toInt)) := hw
  obtain ⟨hP, hD⟩ : PD D A [O12 a12 r12 v12_keptMany v12_done v12_sheets v12_holes v12_worms v12_laidMany v12_wanted v12_orderMany v12_firstOrder v12_lines v12_marks v12_dots v12_madeIn v12_bound v12_places v12_maps v12_tapeMany v12_stories v12_base v12_at v12_ends v12_fault v12_opened v12_bodies v12_ran v12_ownKind v12_ownNumber, (cI κ (r12 8) 40 f12_sheetOf), (cI κ (r12 9) 40 f12_placeOf), (cI κ (r12 10) 40 f12_sorted), (cI κ (r12 11) 40 f12_wormOf), (cI κ (r12 12) 40 f12_wormSheets)] H := hPD
  refine lv_if_eq (tgt := 15) hx hb dX12_led_5 (by decide) (fun c4 => ?_) (fun c4 => ?_)
  · have c4 := ci_eq c4
    refine lv_iconst (v := (-1)) hx hb dX12_led_15 (by decide) ?_
    have hpo : (0 ≤ v12_worms.toInt ∧ v12_worms.toInt ≤ 40) ∧ (∀ j : Nat, 0 ≤ (f12_sorted j).toInt ∧ (f12_sorted j).toInt ≤ 39) ∧ ((¬ (0 ≤ p1.toInt ∧ p1.toInt < v12_holes.toInt ∧ 0 ≤ p2.toInt ∧ p2.toInt ≤ 99) ∧ ((-1) : Int32).toInt = -1) ∨ ((0 ≤ p1.toInt ∧ p1.toInt < v12_holes.toInt ∧ 0 ≤ p2.toInt ∧ p2.toInt ≤ 99) ∧ ((-1) : Int32).toInt = ledR f12_sheetOf f12_placeOf v12_holes.toInt.toNat p2.toInt p1.toNatClampNeg)) := ⟨i5, hf12_sorted, (by omega)⟩
    exact ret _ _ _ _ (-1) (v12_worms, f12_sorted, f12_wormOf, f12_wormSheets) dX12_led_16 hpo hP hD hS
  have c4 := ci_ne c4
  refine lv_iload_n hx hb dX12_led_8 rfl (lv_at hl 2 rfl) ?_
  refine kcm_i hA hAB hP hD hS [false, false, false, false, false, false] rfl (fun _ => rfl) (fun hPc hDc => va_runS (As := [.int p2]) (rest := []) ⟨hx, hb, hml, hown, hts⟩ (k_X12_isSlack l D κ β H.size p2) (va_cwS 1 hts gX12_led_X12_isSlack rfl rfl rfl (by decide +kernel) ⟨Nat.le_of_ble_eq_true rfl, Nat.le_of_ble_eq_true rfl⟩) (pk_S hK hS hAB hPc hDc) rfl rfl hl.1 rfl (lv_room (Nat.le_of_ble_eq_true rfl)) dX12_led_9 ⟨Nat.le_of_ble_eq_true rfl, Nat.le_of_ble_eq_true rfl⟩) (fun x5 u6 H locs hw hPD hS => ?_)
  have h7 : (x5.toInt = 1 ∧ 0 ≤ p2.toInt ∧ p2.toInt ≤ 99) ∨ (x5.toInt = 0 ∧ (p2.toInt < 0 ∨ 99 < p2.toInt)) := hw
  obtain ⟨hP, hD⟩ : PD D A [O12 a12 r12 v12_keptMany v12_done v12_sheets v12_holes v12_worms v12_laidMany v12_wanted v12_orderMany v12_firstOrder v12_lines v12_marks v12_dots v12_madeIn v12_bound v12_places v12_maps v12_tapeMany v12_stories v12_base v12_at v12_ends v12_fault v12_opened v12_bodies v12_ran v12_ownKind v12_ownNumber, (cI κ (r12 8) 40 f12_sheetOf), (cI κ (r12 9) 40 f12_placeOf), (cI κ (r12 10) 40 f12_sorted), (cI κ (r12 11) 40 f12_wormOf), (cI κ (r12 12) 40 f12_wormSheets)] H := hPD
  refine lv_if_ne (tgt := 17) hx hb dX12_led_12 (by decide) (fun c8 => ?_) (fun c8 => ?_)
  · have c8 := ci_ne c8
    refine lv_aload_n hx hb dX12_led_17 rfl (lv_at hl 0 rfl) ?_
    refine lv_iload_n hx hb dX12_led_18 rfl (lv_at hl 2 rfl) ?_
    refine lv_iconst (v := (-1)) hx hb dX12_led_19 (by decide) ?_
    refine kcm_v hA hAB hP hD hS [true, true, true, true, true, true] rfl (fun _ => rfl) (fun hPc hDc => va_runV (As := [.int p2, .int (-1)]) (rest := []) ⟨hx, hb, hml, hown, hts⟩ (k_X12_findWorms_all l D κ β a12 r12 v12_keptMany v12_done v12_sheets v12_holes v12_worms v12_laidMany v12_wanted v12_orderMany v12_firstOrder v12_lines v12_marks v12_dots v12_madeIn v12_bound v12_places v12_maps v12_tapeMany v12_stories v12_base v12_at v12_ends v12_fault v12_opened v12_bodies v12_ran v12_ownKind v12_ownNumber f12_sheetOf f12_placeOf f12_sorted f12_wormOf f12_wormSheets H.size p2 (-1) i1 i2 i3 i4 i5 i6 i7 i8 i9 i10 i11 i12 i13 i14 i15 i16 hf12_sheetOf hf12_placeOf hf12_sorted i17 (by omega)) (cwV 2 hts gX12_led_X12_findWorms rfl rfl rfl (by decide +kernel) ⟨Nat.le_of_ble_eq_true rfl, Nat.le_of_ble_eq_true rfl⟩) (pk_V hK hS hAB hPc hDc 0 (ci := 12) rfl rfl rfl) rfl rfl hl.1 rfl (lv_room (Nat.le_of_ble_eq_true rfl)) dX12_led_20 ⟨Nat.le_of_ble_eq_true rfl, Nat.le_of_ble_eq_true rfl⟩) (fun u13 H locs hw hPD hS => ?_)
    obtain ⟨x9, g10, g11, g12⟩ := u13
    obtain ⟨h14, h15, h16⟩ : (0 ≤ x9.toInt ∧ x9.toInt ≤ 40) ∧ (∀ j : Nat, 0 ≤ (g10 j).toInt ∧ (g10 j).toInt ≤ 39) ∧ (WInv (srt f12_placeOf v12_holes.toInt.toNat) f12_sheetOf f12_placeOf p2.toInt v12_holes.toInt.toNat x9 g12 g11) := hw
    obtain ⟨hP, hD⟩ : PD D A [O12 a12 r12 v12_keptMany v12_done v12_sheets v12_holes x9 v12_laidMany v12_wanted v12_orderMany v12_firstOrder v12_lines v12_marks v12_dots v12_madeIn v12_bound v12_places v12_maps v12_tapeMany v12_stories v12_base v12_at v12_ends v12_fault v12_opened v12_bodies v12_ran v12_ownKind v12_ownNumber, (cI κ (r12 8) 40 f12_sheetOf), (cI κ (r12 9) 40 f12_placeOf), (cI κ (r12 10) 40 g10), (cI κ (r12 11) 40 g11), (cI κ (r12 12) 40 g12)] H := hPD
    have hWO : WInv (srt f12_placeOf v12_holes.toInt.toNat) f12_sheetOf f12_placeOf p2.toInt v12_holes.toInt.toNat x9 g12 g11 := by assumption
    refine lv_aload_n hx hb dX12_led_23 rfl (lv_at hl 0 rfl) ?_
    refine va_get (D := D) (ci := 12) (v := .ref (r12 11)) (C := RX12) (T := TX12) (N := 63) hx hb hts w1 hown hK.1 hP 0 rfl rfl 11 (by decide) w0 (fun _ h9 => h9) rfl dX12_led_24 ?_
    refine lv_iload_n hx hb dX12_led_27 rfl (lv_at hl 1 rfl) ?_
    refine va_iald hx hb hK.1 hP 4 1 rfl rfl (i := p1) (ix (by omega) (by omega)) dX12_led_28 ?_
    refine lv_topi (fun x17 e18 => ?_)
    have hz7 : x17.toInt = ledR f12_sheetOf f12_placeOf v12_holes.toInt.toNat p2.toInt p1.toNatClampNeg := by rw [e18]; exact led_of hWO (by omega) (by have h9 := ci_clamp (i := p1) (by omega); omega)
    have hpo : (0 ≤ x9.toInt ∧ x9.toInt ≤ 40) ∧ (∀ j : Nat, 0 ≤ (g10 j).toInt ∧ (g10 j).toInt ≤ 39) ∧ ((¬ (0 ≤ p1.toInt ∧ p1.toInt < v12_holes.toInt ∧ 0 ≤ p2.toInt ∧ p2.toInt ≤ 99) ∧ x17.toInt = -1) ∨ ((0 ≤ p1.toInt ∧ p1.toInt < v12_holes.toInt ∧ 0 ≤ p2.toInt ∧ p2.toInt ≤ 99) ∧ x17.toInt = ledR f12_sheetOf f12_placeOf v12_holes.toInt.toNat p2.toInt p1.toNatClampNeg)) := ⟨h14, h15, (by omega)⟩
    exact ret _ _ _ _ x17 (x9, g10, g11, g12) dX12_led_29 hpo hP hD hS
  have c8 := ci_eq c8
  refine lv_iconst (v := (-1)) hx hb dX12_led_15 (by decide) ?_
  have hpo : (0 ≤ v12_worms.toInt ∧ v12_worms.toInt ≤ 40) ∧ (∀ j : Nat, 0 ≤ (f12_sorted j).toInt ∧ (f12_sorted j).toInt ≤ 39) ∧ ((¬ (0 ≤ p1.toInt ∧ p1.toInt < v12_holes.toInt ∧ 0 ≤ p2.toInt ∧ p2.toInt ≤ 99) ∧ ((-1) : Int32).toInt = -1) ∨ ((0 ≤ p1.toInt ∧ p1.toInt < v12_holes.toInt ∧ 0 ≤ p2.toInt ∧ p2.toInt ≤ 99) ∧ ((-1) : Int32).toInt = ledR f12_sheetOf f12_placeOf v12_holes.toInt.toNat p2.toInt p1.toNatClampNeg)) := ⟨i5, hf12_sorted, (by omega)⟩
  exact ret _ _ _ _ (-1) (v12_worms, f12_sorted, f12_wormOf, f12_wormSheets) dX12_led_16 hpo hP hD hS
set_option maxHeartbeats 4000000 in
set_option maxRecDepth 100000 in
theorem k_X12_line (l : Launch) (D : va_G) (κ : Nat → ClassId) (β : Nat) (a12 : Nat) (r12 : Nat → Nat) (v12_keptMany : Int32) (v12_done : Int32) (v12_sheets : Int32) (v12_holes : Int32) (v12_worms : Int32) (v12_laidMany : Int32) (v12_wanted : Int32) (v12_orderMany : Int32) (v12_firstOrder : Int32) (v12_lines : Int32) (v12_marks : Int32) (v12_dots : Int32) (v12_madeIn : Int32) (v12_bound : Int32) (v12_places : Int32) (v12_maps : Int32) (v12_tapeMany : Int32) (v12_stories : Int32) (v12_base : Int32) (v12_at : Int32) (v12_ends : Int32) (v12_fault : Int32) (v12_opened : Int32) (v12_bodies : Int32) (v12_ran : Int32) (v12_ownKind : Int32) (v12_ownNumber : Int32) (f12_lineSheet : Nat → Int32) (f12_lineInk : Nat → Int32) (sz : Nat) (p1 : Int32) (p2 : Int32) (i1 : Rg 0 40 v12_keptMany) (i2 : Rg 0 40 v12_done) (i3 : Rg 0 8 v12_sheets) (i4 : Rg 0 40 v12_holes) (i5 : Rg 0 40 v12_worms) (i6 : Rg 0 8 v12_laidMany) (i7 : Rg 0 8 v12_wanted) (i8 : Rg 0 20 v12_lines) (i9 : Rg 0 60 v12_marks) (i10 : Rg 0 40 v12_dots) (i11 : Rg 0 20 v12_places) (i12 : Rg 0 8 v12_maps) (i13 : Rg 0 120 v12_tapeMany) (i14 : Rg 0 6 v12_stories) (i15 : Rg 0 50 v12_bodies) (i16 : Rg 0 1000 v12_ran) (i17 : v12_done.toInt ≤ v12_keptMany.toInt) : Met l yX12_line wsX12_line ({ frames := 2, cells := 0, slots := 0, locals := 46 } : Room) (PcK D κ β [O12 a12 r12 v12_keptMany v12_done v12_sheets v12_holes v12_worms v12_laidMany v12_wanted v12_orderMany v12_firstOrder v12_lines v12_marks v12_dots v12_madeIn v12_bound v12_places v12_maps v12_tapeMany v12_stories v12_base v12_at v12_ends v12_fault v12_opened v12_bodies v12_ran v12_ownKind v12_ownNumber, (cI κ (r12 21) 20 f12_lineSheet), (cI κ (r12 22) 20 f12_lineInk)] sz [.ref a12, .int p1, .int p2]) (QiK D (fun (r : Int32) (u : Int32 × (Nat → Int32) × (Nat → Int32)) => (0 ≤ u.1.toInt ∧ u.1.toInt ≤ 20) ∧ ((¬ (0 ≤ p1.toInt ∧ p1.toInt < v12_sheets.toInt ∧ 0 ≤ p2.toInt ∧ p2.toInt ≤ 5) ∧ r.toInt = -1 ∧ u.1.toInt = v12_lines.toInt) ∨ ((0 ≤ p1.toInt ∧ p1.toInt < v12_sheets.toInt ∧ 0 ≤ p2.toInt ∧ p2.toInt ≤ 5) ∧ v12_lines.toInt = 20 ∧ r.toInt = -3 ∧ u.1.toInt = v12_lines.toInt) ∨ ((0 ≤ p1.toInt ∧ p1.toInt < v12_sheets.toInt ∧ 0 ≤ p2.toInt ∧ p2.toInt ≤ 5) ∧ v12_lines.toInt < 20 ∧ r.toInt = v12_lines.toInt ∧ u.1.toInt = v12_lines.toInt + 1))) (fun (u : Int32 × (Nat → Int32) × (Nat → Int32)) => [O12 a12 r12 v12_keptMany v12_done v12_sheets v12_holes v12_worms v12_laidMany v12_wanted v12_orderMany v12_firstOrder u.1 v12_marks v12_dots v12_madeIn v12_bound v12_places v12_maps v12_tapeMany v12_stories v12_base v12_at v12_ends v12_fault v12_opened v12_bodies v12_ran v12_ownKind v12_ownNumber, (cI κ (r12 21) 20 u.2.1), (cI κ (r12 22) 20 u.2.2)]) [O12 a12 r12 v12_keptMany v12_done v12_sheets v12_holes v12_worms v12_laidMany v12_wanted v12_orderMany v12_firstOrder v12_lines v12_marks v12_dots v12_madeIn v12_bound v12_places v12_maps v12_tapeMany v12_stories v12_base v12_at v12_ends v12_fault v12_opened v12_bodies v12_ran v12_ownKind v12_ownNumber, (cI κ (r12 21) 20 f12_lineSheet), (cI κ (r12 22) 20 f12_lineInk)] sz) 0 0 (va_A [O12 a12 r12 v12_keptMany v12_done v12_sheets v12_holes v12_worms v12_laidMany v12_wanted v12_orderMany v12_firstOrder v12_lines v12_marks v12_dots v12_madeIn v12_bound v12_places v12_maps v12_tapeMany v12_stories v12_base v12_at v12_ends v12_fault v12_opened v12_bodies v12_ran v12_ownKind v12_ownNumber, (cI κ (r12 21) 20 f12_lineSheet), (cI κ (r12 22) 20 f12_lineInk)] sz) := by
  refine ofK_i (cc := cX12_line) (maxL := 3) (own := RX12) (by decide) rfl rfl (Nat.le_of_ble_eq_true rfl) ?_
  intro p e s m args below meth c Q A ls hsz hx hb hml hts hown hK hA hAB hP hD hl ret
  have hS : va_S A s.heap s.heap [] := va_S.rf
  have hl : lv_has ls 3 [(0, .ref a12), (1, .int p1), (2, .int p2)] := hl
  have w0 := hts (.fieldLink RX12 200 "OlderSkinModel" "lines" "I") (List.mem_of_getElem? (i := 1) rfl)
  have w1 := (fun w h => List.mem_cons_of_mem _ (List.mem_append_right _ h) : ∀ w ∈ u_ws RX12 TX12 63, w ∈ wsX12_line)
  have w2 := hts (.fieldLink RX12 43 "OlderSkinModel" "lineSheet" "[I") (List.mem_of_getElem? (i := 2) rfl)
  have w3 := hts (.fieldLink RX12 46 "OlderSkinModel" "lineInk" "[I") (List.mem_of_getElem? (i := 3) rfl)
  have l0 : (0 : Int32).toInt = 0 := by decide
  have l1 : ((-1) : Int32).toInt = -1 := by decide
  have l2 : (20 : Int32).toInt = 20 := by decide
  have l3 : (1 : Int32).toInt = 1 := by decide
  have l4 : ((-3) : Int32).toInt = -3 := by decide
  have i3 : 0 ≤ v12_sheets.toInt ∧ v12_sheets.toInt ≤ 8 := i3
  have i8 : 0 ≤ v12_lines.toInt ∧ v12_lines.toInt ≤ 20 := i8
  refine lv_aload_n hx hb dX12_line_0 rfl (lv_at hl 0 rfl) ?_
  refine lv_iload_n hx hb dX12_line_1 rfl (lv_at hl 1 rfl) ?_
  refine kcm_i hA hAB hP hD hS [true, false, false] rfl (fun _ => rfl) (fun hPc hDc => va_runV (As := [.int p1]) (rest := []) ⟨hx, hb, hml, hown, hts⟩ (k_X12_isSheet l D κ β a12 r12 v12_keptMany v12_done v12_sheets v12_holes v12_worms v12_laidMany v12_wanted v12_orderMany v12_firstOrder v12_lines v12_marks v12_dots v12_madeIn v12_bound v12_places v12_maps v12_tapeMany v12_stories v12_base v12_at v12_ends v12_fault v12_opened v12_bodies v12_ran v12_ownKind v12_ownNumber s.heap.size p1 i1 i2 i3 i4 i5 i6 i7 i8 i9 i10 i11 i12 i13 i14 i15 i16 i17) (cwV 1 hts gX12_line_X12_isSheet rfl rfl rfl (by decide +kernel) ⟨Nat.le_of_ble_eq_true rfl, Nat.le_of_ble_eq_true rfl⟩) (pk_V hK hS hAB hPc hDc 0 (ci := 12) rfl rfl rfl) rfl rfl hl.1 rfl (lv_room (Nat.le_of_ble_eq_true rfl)) dX12_line_2 ⟨Nat.le_of_ble_eq_true rfl, Nat.le_of_ble_eq_true rfl⟩) (fun x1 u2 H locs hw hPD hS => ?_)
  have h3 : (x1.toInt = 1 ∧ 0 ≤ p1.toInt ∧ p1.toInt < v12_sheets.toInt) ∨ (x1.toInt = 0 ∧ (p1.toInt < 0 ∨ v12_sheets.toInt ≤ p1.toInt)) := hw
  obtain ⟨hP, hD⟩ : PD D A [O12 a12 r12 v12_keptMany v12_done v12_sheets v12_holes v12_worms v12_laidMany v12_wanted v12_orderMany v12_firstOrder v12_lines v12_marks v12_dots v12_madeIn v12_bound v12_places v12_maps v12_tapeMany v12_stories v12_base v12_at v12_ends v12_fault v12_opened v12_bodies v12_ran v12_ownKind v12_ownNumber, (cI κ (r12 21) 20 f12_lineSheet), (cI κ (r12 22) 20 f12_lineInk)] H := hPD
  refine lv_if_eq (tgt := 15) hx hb dX12_line_5 (by decide) (fun c4 => ?_) (fun c4 => ?_)
  · have c4 := ci_eq c4
    refine lv_iconst (v := (-1)) hx hb dX12_line_15 (by decide) ?_
    have hpo : (0 ≤ v12_lines.toInt ∧ v12_lines.toInt ≤ 20) ∧ ((¬ (0 ≤ p1.toInt ∧ p1.toInt < v12_sheets.toInt ∧ 0 ≤ p2.toInt ∧ p2.toInt ≤ 5) ∧ ((-1) : Int32).toInt = -1 ∧ v12_lines.toInt = v12_lines.toInt) ∨ ((0 ≤ p1.toInt ∧ p1.toInt < v12_sheets.toInt ∧ 0 ≤ p2.toInt ∧ p2.toInt ≤ 5) ∧ v12_lines.toInt = 20 ∧ ((-1) : Int32).toInt = -3 ∧ v12_lines.toInt = v12_lines.toInt) ∨ ((0 ≤ p1.toInt ∧ p1.toInt < v12_sheets.toInt ∧ 0 ≤ p2.toInt ∧ p2.toInt ≤ 5) ∧ v12_lines.toInt < 20 ∧ ((-1) : Int32).toInt = v12_lines.toInt ∧ v12_lines.toInt = v12_lines.toInt + 1)) := ⟨i8, (by omega)⟩
    exact ret _ _ _ _ (-1) (v12_lines, f12_lineSheet, f12_lineInk) dX12_line_16 hpo hP hD hS
  have c4 := ci_ne c4
  refine lv_iload_n hx hb dX12_line_8 rfl (lv_at hl 2 rfl) ?_
  refine kcm_i hA hAB hP hD hS [false, false, false] rfl (fun _ => rfl) (fun hPc hDc => va_runS (As := [.int p2]) (rest := []) ⟨hx, hb, hml, hown, hts⟩ (k_X12_isInk l D κ β H.size p2) (va_cwS 1 hts gX12_line_X12_isInk rfl rfl rfl (by decide +kernel) ⟨Nat.le_of_ble_eq_true rfl, Nat.le_of_ble_eq_true rfl⟩) (pk_S hK hS hAB hPc hDc) rfl rfl hl.1 rfl (lv_room (Nat.le_of_ble_eq_true rfl)) dX12_line_9 ⟨Nat.le_of_ble_eq_true rfl, Nat.le_of_ble_eq_true rfl⟩) (fun x5 u6 H locs hw hPD hS => ?_)
  have h7 : (x5.toInt = 1 ∧ 0 ≤ p2.toInt ∧ p2.toInt ≤ 5) ∨ (x5.toInt = 0 ∧ (p2.toInt < 0 ∨ 5 < p2.toInt)) := hw
  obtain ⟨hP, hD⟩ : PD D A [O12 a12 r12 v12_keptMany v12_done v12_sheets v12_holes v12_worms v12_laidMany v12_wanted v12_orderMany v12_firstOrder v12_lines v12_marks v12_dots v12_madeIn v12_bound v12_places v12_maps v12_tapeMany v12_stories v12_base v12_at v12_ends v12_fault v12_opened v12_bodies v12_ran v12_ownKind v12_ownNumber, (cI κ (r12 21) 20 f12_lineSheet), (cI κ (r12 22) 20 f12_lineInk)] H := hPD
  refine lv_if_ne (tgt := 17) hx hb dX12_line_12 (by decide) (fun c8 => ?_) (fun c8 => ?_)
  · have c8 := ci_ne c8
    refine lv_aload_n hx hb dX12_line_17 rfl (lv_at hl 0 rfl) ?_
    refine va_get (D := D) (ci := 12) (v := .int v12_lines) (C := RX12) (T := TX12) (N := 63) hx hb hts w1 hown hK.1 hP 0 rfl rfl 20 (by decide) w0 (fun _ h9 => h9) rfl dX12_line_18 ?_
    refine lv_bipush (v := 20) hx hb dX12_line_21 (by decide) ?_
    refine lv_icmp_ne (tgt := 29) hx hb dX12_line_23 (by decide) (fun c9 => ?_) (fun c9 => ?_)
    · have c9 := ci_ne c9
      refine lv_aload_n hx hb dX12_line_29 rfl (lv_at hl 0 rfl) ?_
      refine va_get (D := D) (ci := 12) (v := .ref (r12 21)) (C := RX12) (T := TX12) (N := 63) hx hb hts w1 hown hK.1 hP 0 rfl rfl 21 (by decide) w2 (fun _ h9 => h9) rfl dX12_line_30 ?_
      refine lv_aload_n hx hb dX12_line_33 rfl (lv_at hl 0 rfl) ?_
      refine va_get (D := D) (ci := 12) (v := .int v12_lines) (C := RX12) (T := TX12) (N := 63) hx hb hts w1 hown hK.1 hP 0 rfl rfl 20 (by decide) w0 (fun _ h9 => h9) rfl dX12_line_34 ?_
      refine lv_iload_n hx hb dX12_line_37 rfl (lv_at hl 1 rfl) ?_
      refine va_iast hx hb hK.1 hP hD hS 1 1 rfl rfl (i := v12_lines) (ix (by omega) (by omega)) dX12_line_38 (fun H locs hP hD hS => ?_)
      obtain ⟨g10, e11⟩ : ∃ y : Nat → Int32, y = upd f12_lineSheet v12_lines.toNatClampNeg p1 := ⟨_, rfl⟩
      rw [← e11] at hP hD
      obtain ⟨hP, hD⟩ : PD D A [O12 a12 r12 v12_keptMany v12_done v12_sheets v12_holes v12_worms v12_laidMany v12_wanted v12_orderMany v12_firstOrder v12_lines v12_marks v12_dots v12_madeIn v12_bound v12_places v12_maps v12_tapeMany v12_stories v12_base v12_at v12_ends v12_fault v12_opened v12_bodies v12_ran v12_ownKind v12_ownNumber, (cI κ (r12 21) 20 g10), (cI κ (r12 22) 20 f12_lineInk)] H := ⟨hP, hD⟩
      refine lv_aload_n hx hb dX12_line_39 rfl (lv_at hl 0 rfl) ?_
      refine va_get (D := D) (ci := 12) (v := .ref (r12 22)) (C := RX12) (T := TX12) (N := 63) hx hb hts w1 hown hK.1 hP 0 rfl rfl 22 (by decide) w3 (fun _ h9 => h9) rfl dX12_line_40 ?_
      refine lv_aload_n hx hb dX12_line_43 rfl (lv_at hl 0 rfl) ?_
      refine va_get (D := D) (ci := 12) (v := .int v12_lines) (C := RX12) (T := TX12) (N := 63) hx hb hts w1 hown hK.1 hP 0 rfl rfl 20 (by decide) w0 (fun _ h9 => h9) rfl dX12_line_44 ?_
      refine lv_iload_n hx hb dX12_line_47 rfl (lv_at hl 2 rfl) ?_
      refine va_iast hx hb hK.1 hP hD hS 2 1 rfl rfl (i := v12_lines) (ix (by omega) (by omega)) dX12_line_48 (fun H locs hP hD hS => ?_)
      obtain ⟨g12, e13⟩ : ∃ y : Nat → Int32, y = upd f12_lineInk v12_lines.toNatClampNeg p2 := ⟨_, rfl⟩
      rw [← e13] at hP hD
      obtain ⟨hP, hD⟩ : PD D A [O12 a12 r12 v12_keptMany v12_done v12_sheets v12_holes v12_worms v12_laidMany v12_wanted v12_orderMany v12_firstOrder v12_lines v12_marks v12_dots v12_madeIn v12_bound v12_places v12_maps v12_tapeMany v12_stories v12_base v12_at v12_ends v12_fault v12_opened v12_bodies v12_ran v12_ownKind v12_ownNumber, (cI κ (r12 21) 20 g10), (cI κ (r12 22) 20 g12)] H := ⟨hP, hD⟩
      refine lv_aload_n hx hb dX12_line_49 rfl (lv_at hl 0 rfl) ?_
      refine lv_dup hx hb dX12_line_50 rfl ?_
      refine va_get (D := D) (ci := 12) (v := .int v12_lines) (C := RX12) (T := TX12) (N := 63) hx hb hts w1 hown hK.1 hP 0 rfl rfl 20 (by decide) w0 (fun _ h9 => h9) rfl dX12_line_51 ?_
      refine lv_iconst (v := 1) hx hb dX12_line_54 (by decide) ?_
      refine lv_iadd hx hb dX12_line_55 ?_
      refine lv_topi (fun x14 e15 => ?_)
      try have h16 : x14.toInt = v12_lines.toInt + (1 : Int32).toInt := ci_add e15 (by omega) (by omega)
      refine va_put (D := D) (ci := 12) (v := .int x14) (ty := .int) (C := RX12) (T := TX12) (N := 63) hx hb hts w1 tyX12 tyX12_ok nmX12 hown hK.1 hP hD hS 0 rfl rfl 20 (by decide) w0 (fun _ h9 => h9) rfl (by decide +kernel) rfl rfl (Nat.le_of_ble_eq_true rfl) dX12_line_56 (fun H locs hP hD hS => ?_)
      obtain ⟨hP, hD⟩ : PD D A [O12 a12 r12 v12_keptMany v12_done v12_sheets v12_holes v12_worms v12_laidMany v12_wanted v12_orderMany v12_firstOrder x14 v12_marks v12_dots v12_madeIn v12_bound v12_places v12_maps v12_tapeMany v12_stories v12_base v12_at v12_ends v12_fault v12_opened v12_bodies v12_ran v12_ownKind v12_ownNumber, (cI κ (r12 21) 20 g10), (cI κ (r12 22) 20 g12)] H := ⟨hP, hD⟩
      have h17 : 0 ≤ x14.toInt ∧ x14.toInt ≤ 20 := by omega
      refine lv_aload_n hx hb dX12_line_59 rfl (lv_at hl 0 rfl) ?_
      refine va_get (D := D) (ci := 12) (v := .int x14) (C := RX12) (T := TX12) (N := 63) hx hb hts w1 hown hK.1 hP 0 rfl rfl 20 (by decide) w0 (fun _ h9 => h9) rfl dX12_line_60 ?_
      refine lv_iconst (v := 1) hx hb dX12_line_63 (by decide) ?_
      refine lv_isub hx hb dX12_line_64 ?_
      refine lv_topi (fun x18 e19 => ?_)
      try have h20 : x18.toInt = x14.toInt - (1 : Int32).toInt := ci_sub e19 (by omega) (by omega)
      have hpo : (0 ≤ x14.toInt ∧ x14.toInt ≤ 20) ∧ ((¬ (0 ≤ p1.toInt ∧ p1.toInt < v12_sheets.toInt ∧ 0 ≤ p2.toInt ∧ p2.toInt ≤ 5) ∧ x18.toInt = -1 ∧ x14.toInt = v12_lines.toInt) ∨ ((0 ≤ p1.toInt ∧ p1.toInt < v12_sheets.toInt ∧ 0 ≤ p2.toInt ∧ p2.toInt ≤ 5) ∧ v12_lines.toInt = 20 ∧ x18.toInt = -3 ∧ x14.toInt = v12_lines.toInt) ∨ ((0 ≤ p1.toInt ∧ p1.toInt < v12_sheets.toInt ∧ 0 ≤ p2.toInt ∧ p2.toInt ≤ 5) ∧ v12_lines.toInt < 20 ∧ x18.toInt = v12_lines.toInt ∧ x14.toInt = v12_lines.toInt + 1)) := ⟨h17, (by omega)⟩
      exact ret _ _ _ _ x18 (x14, g10, g12) dX12_line_65 hpo hP hD hS
    have c9 := ci_eq c9
    refine lv_bipush (v := (-3)) hx hb dX12_line_26 (by decide) ?_
    have hpo : (0 ≤ v12_lines.toInt ∧ v12_lines.toInt ≤ 20) ∧ ((¬ (0 ≤ p1.toInt ∧ p1.toInt < v12_sheets.toInt ∧ 0 ≤ p2.toInt ∧ p2.toInt ≤ 5) ∧ ((-3) : Int32).toInt = -1 ∧ v12_lines.toInt = v12_lines.toInt) ∨ ((0 ≤ p1.toInt ∧ p1.toInt < v12_sheets.toInt ∧ 0 ≤ p2.toInt ∧ p2.toInt ≤ 5) ∧ v12_lines.toInt = 20 ∧ ((-3) : Int32).toInt = -3 ∧ v12_lines.toInt = v12_lines.toInt) ∨ ((0 ≤ p1.toInt ∧ p1.toInt < v12_sheets.toInt ∧ 0 ≤ p2.toInt ∧ p2.toInt ≤ 5) ∧ v12_lines.toInt < 20 ∧ ((-3) : Int32).toInt = v12_lines.toInt ∧ v12_lines.toInt = v12_lines.toInt + 1)) := ⟨i8, (by omega)⟩
    exact ret _ _ _ _ (-3) (v12_lines, f12_lineSheet, f12_lineInk) dX12_line_28 hpo hP hD hS
  have c8 := ci_eq c8
  refine lv_iconst (v := (-1)) hx hb dX12_line_15 (by decide) ?_
  have hpo : (0 ≤ v12_lines.toInt ∧ v12_lines.toInt ≤ 20) ∧ ((¬ (0 ≤ p1.toInt ∧ p1.toInt < v12_sheets.toInt ∧ 0 ≤ p2.toInt ∧ p2.toInt ≤ 5) ∧ ((-1) : Int32).toInt = -1 ∧ v12_lines.toInt = v12_lines.toInt) ∨ ((0 ≤ p1.toInt ∧ p1.toInt < v12_sheets.toInt ∧ 0 ≤ p2.toInt ∧ p2.toInt ≤ 5) ∧ v12_lines.toInt = 20 ∧ ((-1) : Int32).toInt = -3 ∧ v12_lines.toInt = v12_lines.toInt) ∨ ((0 ≤ p1.toInt ∧ p1.toInt < v12_sheets.toInt ∧ 0 ≤ p2.toInt ∧ p2.toInt ≤ 5) ∧ v12_lines.toInt < 20 ∧ ((-1) : Int32).toInt = v12_lines.toInt ∧ v12_lines.toInt = v12_lines.toInt + 1)) := ⟨i8, (by omega)⟩
  exact ret _ _ _ _ (-1) (v12_lines, f12_lineSheet, f12_lineInk) dX12_line_16 hpo hP hD hS
set_option maxHeartbeats 4000000 in
set_option maxRecDepth 100000 in
theorem k_X12_mark (l : Launch) (D : va_G) (κ : Nat → ClassId) (β : Nat) (a12 : Nat) (r12 : Nat → Nat) (v12_keptMany : Int32) (v12_done : Int32) (v12_sheets : Int32) (v12_holes : Int32) (v12_worms : Int32) (v12_laidMany : Int32) (v12_wanted : Int32) (v12_orderMany : Int32) (v12_firstOrder : Int32) (v12_lines : Int32) (v12_marks : Int32) (v12_dots : Int32) (v12_madeIn : Int32) (v12_bound : Int32) (v12_places : Int32) (v12_maps : Int32) (v12_tapeMany : Int32) (v12_stories : Int32) (v12_base : Int32) (v12_at : Int32) (v12_ends : Int32) (v12_fault : Int32) (v12_opened : Int32) (v12_bodies : Int32) (v12_ran : Int32) (v12_ownKind : Int32) (v12_ownNumber : Int32) (f12_sheetOf : Nat → Int32) (f12_lineSheet : Nat → Int32) (f12_markLine : Nat → Int32) (f12_markHole : Nat → Int32) (f12_isOver : Nat → Int32) (sz : Nat) (p1 : Int32) (p2 : Int32) (i1 : Rg 0 40 v12_keptMany) (i2 : Rg 0 40 v12_done) (i3 : Rg 0 8 v12_sheets) (i4 : Rg 0 40 v12_holes) (i5 : Rg 0 40 v12_worms) (i6 : Rg 0 8 v12_laidMany) (i7 : Rg 0 8 v12_wanted) (i8 : Rg 0 20 v12_lines) (i9 : Rg 0 60 v12_marks) (i10 : Rg 0 40 v12_dots) (i11 : Rg 0 20 v12_places) (i12 : Rg 0 8 v12_maps) (i13 : Rg 0 120 v12_tapeMany) (i14 : Rg 0 6 v12_stories) (i15 : Rg 0 50 v12_bodies) (i16 : Rg 0 1000 v12_ran) (hf12_sheetOf : ∀ j : Nat, 0 ≤ (f12_sheetOf j).toInt ∧ (f12_sheetOf j).toInt ≤ 7) (hf12_markLine : ∀ j : Nat, 0 ≤ (f12_markLine j).toInt ∧ (f12_markLine j).toInt ≤ 19) (hf12_markHole : ∀ j : Nat, 0 ≤ (f12_markHole j).toInt ∧ (f12_markHole j).toInt ≤ 39) (i17 : v12_done.toInt ≤ v12_keptMany.toInt) : Met l yX12_mark wsX12_mark ({ frames := 2, cells := 0, slots := 0, locals := 46 } : Room) (PcK D κ β [O12 a12 r12 v12_keptMany v12_done v12_sheets v12_holes v12_worms v12_laidMany v12_wanted v12_orderMany v12_firstOrder v12_lines v12_marks v12_dots v12_madeIn v12_bound v12_places v12_maps v12_tapeMany v12_stories v12_base v12_at v12_ends v12_fault v12_opened v12_bodies v12_ran v12_ownKind v12_ownNumber, (cI κ (r12 8) 40 f12_sheetOf), (cI κ (r12 21) 20 f12_lineSheet), (cI κ (r12 24) 60 f12_markLine), (cI κ (r12 25) 60 f12_markHole), (cZ κ (r12 26) 60 f12_isOver)] sz [.ref a12, .int p1, .int p2]) (QiK D (fun (r : Int32) (u : Int32 × (Nat → Int32) × (Nat → Int32) × (Nat → Int32)) => (0 ≤ u.1.toInt ∧ u.1.toInt ≤ 60) ∧ (∀ j : Nat, 0 ≤ (u.2.1 j).toInt ∧ (u.2.1 j).toInt ≤ 19) ∧ (∀ j : Nat, 0 ≤ (u.2.2.1 j).toInt ∧ (u.2.2.1 j).toInt ≤ 39)) (fun (u : Int32 × (Nat → Int32) × (Nat → Int32) × (Nat → Int32)) => [O12 a12 r12 v12_keptMany v12_done v12_sheets v12_holes v12_worms v12_laidMany v12_wanted v12_orderMany v12_firstOrder v12_lines u.1 v12_dots v12_madeIn v12_bound v12_places v12_maps v12_tapeMany v12_stories v12_base v12_at v12_ends v12_fault v12_opened v12_bodies v12_ran v12_ownKind v12_ownNumber, (cI κ (r12 8) 40 f12_sheetOf), (cI κ (r12 21) 20 f12_lineSheet), (cI κ (r12 24) 60 u.2.1), (cI κ (r12 25) 60 u.2.2.1), (cZ κ (r12 26) 60 u.2.2.2)]) [O12 a12 r12 v12_keptMany v12_done v12_sheets v12_holes v12_worms v12_laidMany v12_wanted v12_orderMany v12_firstOrder v12_lines v12_marks v12_dots v12_madeIn v12_bound v12_places v12_maps v12_tapeMany v12_stories v12_base v12_at v12_ends v12_fault v12_opened v12_bodies v12_ran v12_ownKind v12_ownNumber, (cI κ (r12 8) 40 f12_sheetOf), (cI κ (r12 21) 20 f12_lineSheet), (cI κ (r12 24) 60 f12_markLine), (cI κ (r12 25) 60 f12_markHole), (cZ κ (r12 26) 60 f12_isOver)] sz) 0 0 (va_A [O12 a12 r12 v12_keptMany v12_done v12_sheets v12_holes v12_worms v12_laidMany v12_wanted v12_orderMany v12_firstOrder v12_lines v12_marks v12_dots v12_madeIn v12_bound v12_places v12_maps v12_tapeMany v12_stories v12_base v12_at v12_ends v12_fault v12_opened v12_bodies v12_ran v12_ownKind v12_ownNumber, (cI κ (r12 8) 40 f12_sheetOf), (cI κ (r12 21) 20 f12_lineSheet), (cI κ (r12 24) 60 f12_markLine), (cI κ (r12 25) 60 f12_markHole), (cZ κ (r12 26) 60 f12_isOver)] sz) := by
  refine ofK_i (cc := cX12_mark) (maxL := 4) (own := RX12) (by decide) rfl rfl (Nat.le_of_ble_eq_true rfl) ?_
  intro p e s m args below meth c Q A ls hsz hx hb hml hts hown hK hA hAB hP hD hl ret
  have hS : va_S A s.heap s.heap [] := va_S.rf
  have hl : lv_has ls 4 [(0, .ref a12), (1, .int p1), (2, .int p2)] := hl
  have w0 := hts (.fieldLink RX12 200 "OlderSkinModel" "lines" "I") (List.mem_of_getElem? (i := 1) rfl)
  have w1 := (fun w h => List.mem_cons_of_mem _ (List.mem_append_right _ h) : ∀ w ∈ u_ws RX12 TX12 63, w ∈ wsX12_mark)
  have w2 := hts (.fieldLink RX12 22 "OlderSkinModel" "sheetOf" "[I") (List.mem_of_getElem? (i := 2) rfl)
  have w3 := hts (.fieldLink RX12 43 "OlderSkinModel" "lineSheet" "[I") (List.mem_of_getElem? (i := 3) rfl)
  have w4 := hts (.fieldLink RX12 203 "OlderSkinModel" "marks" "I") (List.mem_of_getElem? (i := 4) rfl)
  have w5 := hts (.fieldLink RX12 49 "OlderSkinModel" "markLine" "[I") (List.mem_of_getElem? (i := 5) rfl)
  have w6 := hts (.fieldLink RX12 52 "OlderSkinModel" "markHole" "[I") (List.mem_of_getElem? (i := 6) rfl)
  have w7 := hts (.fieldLink RX12 55 "OlderSkinModel" "isOver" "[Z") (List.mem_of_getElem? (i := 7) rfl)
  have l0 : (0 : Int32).toInt = 0 := by decide
  have l1 : ((-1) : Int32).toInt = -1 := by decide
  have l2 : (100 : Int32).toInt = 100 := by decide
  have l3 : (0 : Int64).toInt = 0 := by decide
  have l4 : (1 : Int32).toInt = 1 := by decide
  have l5 : (1 : Int64).toInt = 1 := by decide
  have l6 : (60 : Int32).toInt = 60 := by decide
  have l7 : ((-3) : Int32).toInt = -3 := by decide
  have i4 : 0 ≤ v12_holes.toInt ∧ v12_holes.toInt ≤ 40 := i4
  have i8 : 0 ≤ v12_lines.toInt ∧ v12_lines.toInt ≤ 20 := i8
  have i9 : 0 ≤ v12_marks.toInt ∧ v12_marks.toInt ≤ 60 := i9
  refine lv_iload_n hx hb dX12_mark_0 rfl (lv_at hl 1 rfl) ?_
  refine lv_if_lt (tgt := 65) hx hb dX12_mark_1 (by decide) (fun c1 => ?_) (fun c1 => ?_)
  · have c1 := ci_lt c1
    refine lv_iconst (v := (-1)) hx hb dX12_mark_65 (by decide) ?_
    have hpo : (0 ≤ v12_marks.toInt ∧ v12_marks.toInt ≤ 60) ∧ (∀ j : Nat, 0 ≤ (f12_markLine j).toInt ∧ (f12_markLine j).toInt ≤ 19) ∧ (∀ j : Nat, 0 ≤ (f12_markHole j).toInt ∧ (f12_markHole j).toInt ≤ 39) := ⟨i9, hf12_markLine, hf12_markHole⟩
    exact ret _ _ _ _ (-1) (v12_marks, f12_markLine, f12_markHole, f12_isOver) dX12_mark_66 hpo hP hD hS
  have c1 := ci_nlt c1
  refine lv_iload_n hx hb dX12_mark_4 rfl (lv_at hl 1 rfl) ?_
  refine lv_bipush (v := 100) hx hb dX12_mark_5 (by decide) ?_
  refine lv_idiv hx hb dX12_mark_7 (by decide) ?_
  refine lv_topi (fun x2 e3 => ?_)
  have h4 := ci_divL (n := 100) (by decide) (by decide) e3
  refine lv_i2l hx hb dX12_mark_8 rfl ?_
  refine lv_topl (fun x5 e6 => ?_)
  have h7 : x5.toInt = x2.toInt := cl_i2l e6
  refine lv_lconst (v := (0 : Int64)) hx hb dX12_mark_9 (by decide) ?_
  refine lv_aload_n hx hb dX12_mark_10 rfl (lv_at hl 0 rfl) ?_
  refine va_get (D := D) (ci := 12) (v := .int v12_lines) (C := RX12) (T := TX12) (N := 63) hx hb hts w1 hown hK.1 hP 0 rfl rfl 20 (by decide) w0 (fun _ h9 => h9) rfl dX12_mark_11 ?_
  refine lv_iconst (v := 1) hx hb dX12_mark_14 (by decide) ?_
  refine lv_isub hx hb dX12_mark_15 ?_
  refine lv_topi (fun x8 e9 => ?_)
  try have h10 : x8.toInt = v12_lines.toInt - (1 : Int32).toInt := ci_sub e9 (by omega) (by omega)
  refine lv_i2l hx hb dX12_mark_16 rfl ?_
  refine lv_topl (fun x11 e12 => ?_)
  have h13 : x11.toInt = x8.toInt := cl_i2l e12
  refine kcm_i hA hAB hP hD hS [false, false, false, false, false, false] rfl (fun _ => rfl) (fun hPc hDc => va_runS (As := [.long x5, .long (0 : Int64), .long x11]) (rest := []) ⟨hx, hb, hml, hown, hts⟩ (k_X12_within l D κ β s.heap.size x5 (0 : Int64) x11) (va_cwS 3 hts gX12_mark_X12_within rfl rfl rfl (by decide +kernel) ⟨Nat.le_of_ble_eq_true rfl, Nat.le_of_ble_eq_true rfl⟩) (pk_S hK hS hAB hPc hDc) rfl rfl hl.1 rfl (lv_room (Nat.le_of_ble_eq_true rfl)) dX12_mark_17 ⟨Nat.le_of_ble_eq_true rfl, Nat.le_of_ble_eq_true rfl⟩) (fun x14 u15 H locs hw hPD hS => ?_)
  have h16 : (x14.toInt = 1 ∧ (0 : Int64).toInt ≤ x5.toInt ∧ x5.toInt ≤ x11.toInt) ∨ (x14.toInt = 0 ∧ (x5.toInt < (0 : Int64).toInt ∨ x11.toInt < x5.toInt)) := hw
  obtain ⟨hP, hD⟩ : PD D A [O12 a12 r12 v12_keptMany v12_done v12_sheets v12_holes v12_worms v12_laidMany v12_wanted v12_orderMany v12_firstOrder v12_lines v12_marks v12_dots v12_madeIn v12_bound v12_places v12_maps v12_tapeMany v12_stories v12_base v12_at v12_ends v12_fault v12_opened v12_bodies v12_ran v12_ownKind v12_ownNumber, (cI κ (r12 8) 40 f12_sheetOf), (cI κ (r12 21) 20 f12_lineSheet), (cI κ (r12 24) 60 f12_markLine), (cI κ (r12 25) 60 f12_markHole), (cZ κ (r12 26) 60 f12_isOver)] H := hPD
  refine lv_if_eq (tgt := 65) hx hb dX12_mark_20 (by decide) (fun c17 => ?_) (fun c17 => ?_)
  · have c17 := ci_eq c17
    refine lv_iconst (v := (-1)) hx hb dX12_mark_65 (by decide) ?_
    have hpo : (0 ≤ v12_marks.toInt ∧ v12_marks.toInt ≤ 60) ∧ (∀ j : Nat, 0 ≤ (f12_markLine j).toInt ∧ (f12_markLine j).toInt ≤ 19) ∧ (∀ j : Nat, 0 ≤ (f12_markHole j).toInt ∧ (f12_markHole j).toInt ≤ 39) := ⟨i9, hf12_markLine, hf12_markHole⟩
    exact ret _ _ _ _ (-1) (v12_marks, f12_markLine, f12_markHole, f12_isOver) dX12_mark_66 hpo hP hD hS
  have c17 := ci_ne c17
  refine lv_aload_n hx hb dX12_mark_23 rfl (lv_at hl 0 rfl) ?_
  refine lv_iload_n hx hb dX12_mark_24 rfl (lv_at hl 1 rfl) ?_
  refine lv_bipush (v := 100) hx hb dX12_mark_25 (by decide) ?_
  refine lv_irem hx hb dX12_mark_27 (by decide) ?_
  refine lv_topi (fun x18 e19 => ?_)
  have h20 := ci_remL (n := 100) (by decide) (by decide) e19
  refine kcm_i hA hAB hP hD hS [true, false, false, false, false, false] rfl (fun _ => rfl) (fun hPc hDc => va_runV (As := [.int x18]) (rest := []) ⟨hx, hb, hml, hown, hts⟩ (k_X12_isHole l D κ β a12 r12 v12_keptMany v12_done v12_sheets v12_holes v12_worms v12_laidMany v12_wanted v12_orderMany v12_firstOrder v12_lines v12_marks v12_dots v12_madeIn v12_bound v12_places v12_maps v12_tapeMany v12_stories v12_base v12_at v12_ends v12_fault v12_opened v12_bodies v12_ran v12_ownKind v12_ownNumber H.size x18 i1 i2 i3 i4 i5 i6 i7 i8 i9 i10 i11 i12 i13 i14 i15 i16 i17) (cwV 1 hts gX12_mark_X12_isHole rfl rfl rfl (by decide +kernel) ⟨Nat.le_of_ble_eq_true rfl, Nat.le_of_ble_eq_true rfl⟩) (pk_V hK hS hAB hPc hDc 0 (ci := 12) rfl rfl rfl) rfl rfl hl.1 rfl (lv_room (Nat.le_of_ble_eq_true rfl)) dX12_mark_28 ⟨Nat.le_of_ble_eq_true rfl, Nat.le_of_ble_eq_true rfl⟩) (fun x21 u22 H locs hw hPD hS => ?_)
  have h23 : (x21.toInt = 1 ∧ 0 ≤ x18.toInt ∧ x18.toInt < v12_holes.toInt) ∨ (x21.toInt = 0 ∧ (x18.toInt < 0 ∨ v12_holes.toInt ≤ x18.toInt)) := hw
  obtain ⟨hP, hD⟩ : PD D A [O12 a12 r12 v12_keptMany v12_done v12_sheets v12_holes v12_worms v12_laidMany v12_wanted v12_orderMany v12_firstOrder v12_lines v12_marks v12_dots v12_madeIn v12_bound v12_places v12_maps v12_tapeMany v12_stories v12_base v12_at v12_ends v12_fault v12_opened v12_bodies v12_ran v12_ownKind v12_ownNumber, (cI κ (r12 8) 40 f12_sheetOf), (cI κ (r12 21) 20 f12_lineSheet), (cI κ (r12 24) 60 f12_markLine), (cI κ (r12 25) 60 f12_markHole), (cZ κ (r12 26) 60 f12_isOver)] H := hPD
  refine lv_if_eq (tgt := 65) hx hb dX12_mark_31 (by decide) (fun c24 => ?_) (fun c24 => ?_)
  · have c24 := ci_eq c24
    refine lv_iconst (v := (-1)) hx hb dX12_mark_65 (by decide) ?_
    have hpo : (0 ≤ v12_marks.toInt ∧ v12_marks.toInt ≤ 60) ∧ (∀ j : Nat, 0 ≤ (f12_markLine j).toInt ∧ (f12_markLine j).toInt ≤ 19) ∧ (∀ j : Nat, 0 ≤ (f12_markHole j).toInt ∧ (f12_markHole j).toInt ≤ 39) := ⟨i9, hf12_markLine, hf12_markHole⟩
    exact ret _ _ _ _ (-1) (v12_marks, f12_markLine, f12_markHole, f12_isOver) dX12_mark_66 hpo hP hD hS
  have c24 := ci_ne c24
  refine lv_aload_n hx hb dX12_mark_34 rfl (lv_at hl 0 rfl) ?_
  refine va_get (D := D) (ci := 12) (v := .ref (r12 8)) (C := RX12) (T := TX12) (N := 63) hx hb hts w1 hown hK.1 hP 0 rfl rfl 8 (by decide) w2 (fun _ h9 => h9) rfl dX12_mark_35 ?_
  refine lv_iload_n hx hb dX12_mark_38 rfl (lv_at hl 1 rfl) ?_
  refine lv_bipush (v := 100) hx hb dX12_mark_39 (by decide) ?_
  refine lv_irem hx hb dX12_mark_41 (by decide) ?_
  refine lv_re e19 ?_
  refine va_iald hx hb hK.1 hP 1 1 rfl rfl (i := x18) (ix (by omega) (by omega)) dX12_mark_42 ?_
  refine lv_topi (fun x25 e26 => ?_)
  have h27 : 0 ≤ x25.toInt ∧ x25.toInt ≤ 7 := by rw [e26]; exact hf12_sheetOf _
  refine lv_aload_n hx hb dX12_mark_43 rfl (lv_at hl 0 rfl) ?_
  refine va_get (D := D) (ci := 12) (v := .ref (r12 21)) (C := RX12) (T := TX12) (N := 63) hx hb hts w1 hown hK.1 hP 0 rfl rfl 21 (by decide) w3 (fun _ h9 => h9) rfl dX12_mark_44 ?_
  refine lv_iload_n hx hb dX12_mark_47 rfl (lv_at hl 1 rfl) ?_
  refine lv_bipush (v := 100) hx hb dX12_mark_48 (by decide) ?_
  refine lv_idiv hx hb dX12_mark_50 (by decide) ?_
  refine lv_re e3 ?_
  refine va_iald hx hb hK.1 hP 2 1 rfl rfl (i := x2) (ix (by omega) (by omega)) dX12_mark_51 ?_
  refine lv_topi (fun x28 e29 => ?_)
  refine lv_icmp_ne (tgt := 65) hx hb dX12_mark_52 (by decide) (fun c30 => ?_) (fun c30 => ?_)
  · have c30 := ci_ne c30
    refine lv_iconst (v := (-1)) hx hb dX12_mark_65 (by decide) ?_
    have hpo : (0 ≤ v12_marks.toInt ∧ v12_marks.toInt ≤ 60) ∧ (∀ j : Nat, 0 ≤ (f12_markLine j).toInt ∧ (f12_markLine j).toInt ≤ 19) ∧ (∀ j : Nat, 0 ≤ (f12_markHole j).toInt ∧ (f12_markHole j).toInt ≤ 39) := ⟨i9, hf12_markLine, hf12_markHole⟩
    exact ret _ _ _ _ (-1) (v12_marks, f12_markLine, f12_markHole, f12_isOver) dX12_mark_66 hpo hP hD hS
  have c30 := ci_eq c30
  refine lv_iload_n hx hb dX12_mark_55 rfl (lv_at hl 2 rfl) ?_
  refine lv_i2l hx hb dX12_mark_56 rfl ?_
  refine lv_topl (fun x31 e32 => ?_)
  have h33 : x31.toInt = p2.toInt := cl_i2l e32
  refine lv_lconst (v := (0 : Int64)) hx hb dX12_mark_57 (by decide) ?_
  refine lv_lconst (v := (1 : Int64)) hx hb dX12_mark_58 (by decide) ?_
  refine kcm_i hA hAB hP hD hS [false, false, false, false, false, false] rfl (fun _ => rfl) (fun hPc hDc => va_runS (As := [.long x31, .long (0 : Int64), .long (1 : Int64)]) (rest := []) ⟨hx, hb, hml, hown, hts⟩ (k_X12_within l D κ β H.size x31 (0 : Int64) (1 : Int64)) (va_cwS 3 hts gX12_mark_X12_within rfl rfl rfl (by decide +kernel) ⟨Nat.le_of_ble_eq_true rfl, Nat.le_of_ble_eq_true rfl⟩) (pk_S hK hS hAB hPc hDc) rfl rfl hl.1 rfl (lv_room (Nat.le_of_ble_eq_true rfl)) dX12_mark_59 ⟨Nat.le_of_ble_eq_true rfl, Nat.le_of_ble_eq_true rfl⟩) (fun x34 u35 H locs hw hPD hS => ?_)
  have h36 : (x34.toInt = 1 ∧ (0 : Int64).toInt ≤ x31.toInt ∧ x31.toInt ≤ (1 : Int64).toInt) ∨ (x34.toInt = 0 ∧ (x31.toInt < (0 : Int64).toInt ∨ (1 : Int64).toInt < x31.toInt)) := hw
  obtain ⟨hP, hD⟩ : PD D A [O12 a12 r12 v12_keptMany v12_done v12_sheets v12_holes v12_worms v12_laidMany v12_wanted v12_orderMany v12_firstOrder v12_lines v12_marks v12_dots v12_madeIn v12_bound v12_places v12_maps v12_tapeMany v12_stories v12_base v12_at v12_ends v12_fault v12_opened v12_bodies v12_ran v12_ownKind v12_ownNumber, (cI κ (r12 8) 40 f12_sheetOf), (cI κ (r12 21) 20 f12_lineSheet), (cI κ (r12 24) 60 f12_markLine), (cI κ (r12 25) 60 f12_markHole), (cZ κ (r12 26) 60 f12_isOver)] H := hPD
  refine lv_if_ne (tgt := 67) hx hb dX12_mark_62 (by decide) (fun c37 => ?_) (fun c37 => ?_)
  · have c37 := ci_ne c37
    refine lv_iconst (v := 0) hx hb dX12_mark_67 (by decide) ?_
    refine lv_istore_n (lv' := [(3, .int 0), (0, .ref a12), (1, .int p1), (2, .int p2)]) hx hb dX12_mark_68 rfl hl (by decide) rfl (fun ls hl => ?_)
    have lp69 : ∀ (n69 : Nat) (k38 : Int32), (k38.toInt ≤ v12_marks.toInt) → (0 ≤ k38.toInt) → (v12_marks.toInt - k38.toInt).toNat < n69 → ∀ (H : Heap) (locs : List Loc), va_P D vwCl [O12 a12 r12 v12_keptMany v12_done v12_sheets v12_holes v12_worms v12_laidMany v12_wanted v12_orderMany v12_firstOrder v12_lines v12_marks v12_dots v12_madeIn v12_bound v12_places v12_maps v12_tapeMany v12_stories v12_base v12_at v12_ends v12_fault v12_opened v12_bodies v12_ran v12_ownKind v12_ownNumber, (cI κ (r12 8) 40 f12_sheetOf), (cI κ (r12 21) 20 f12_lineSheet), (cI κ (r12 24) 60 f12_markLine), (cI κ (r12 25) 60 f12_markHole), (cZ κ (r12 26) 60 f12_isOver)] H → va_D A [O12 a12 r12 v12_keptMany v12_done v12_sheets v12_holes v12_worms v12_laidMany v12_wanted v12_orderMany v12_firstOrder v12_lines v12_marks v12_dots v12_madeIn v12_bound v12_places v12_maps v12_tapeMany v12_stories v12_base v12_at v12_ends v12_fault v12_opened v12_bodies v12_ran v12_ownKind v12_ownNumber, (cI κ (r12 8) 40 f12_sheetOf), (cI κ (r12 21) 20 f12_lineSheet), (cI κ (r12 24) 60 f12_markLine), (cI κ (r12 25) 60 f12_markHole), (cZ κ (r12 26) 60 f12_isOver)] → va_S A s.heap H locs → ∀ ls : Array Slot, lv_has ls 4 [(3, .int k38), (0, .ref a12), (1, .int p1), (2, .int p2)] → W p l e ({ frames := 2, cells := 0, slots := 0, locals := 46 } : Room) s m args below meth c H locs 0 0 Q (F0 m 69 ls []) := by
      intro n69
      induction n69 with
      | zero =>
        intro k38 h39 h40 m41
        exact absurd m41 (Nat.not_lt_zero _)
      | succ n69 ih69 =>
        intro k38 h39 h40 m41 H locs hP hD hS ls hl
        refine lv_iload_n hx hb dX12_mark_69 rfl (lv_at hl 0 rfl) ?_
        refine lv_aload_n hx hb dX12_mark_70 rfl (lv_at hl 1 rfl) ?_
        refine va_get (D := D) (ci := 12) (v := .int v12_marks) (C := RX12) (T := TX12) (N := 63) hx hb hts w1 hown hK.1 hP 0 rfl rfl 23 (by decide) w4 (fun _ h9 => h9) rfl dX12_mark_71 ?_
        refine lv_icmp_ge (tgt := 109) hx hb dX12_mark_74 (by decide) (fun c42 => ?_) (fun c42 => ?_)
        · have c42 := ci_le c42
          refine lv_iload_n hx hb dX12_mark_109 rfl (lv_at hl 0 rfl) ?_
          refine lv_bipush (v := 60) hx hb dX12_mark_110 (by decide) ?_
          refine lv_icmp_ne (tgt := 118) hx hb dX12_mark_112 (by decide) (fun c43 => ?_) (fun c43 => ?_)
          · have c43 := ci_ne c43
            refine lv_aload_n hx hb dX12_mark_118 rfl (lv_at hl 1 rfl) ?_
            refine va_get (D := D) (ci := 12) (v := .ref (r12 24)) (C := RX12) (T := TX12) (N := 63) hx hb hts w1 hown hK.1 hP 0 rfl rfl 24 (by decide) w5 (fun _ h9 => h9) rfl dX12_mark_119 ?_
            refine lv_iload_n hx hb dX12_mark_122 rfl (lv_at hl 0 rfl) ?_
            refine lv_iload_n hx hb dX12_mark_123 rfl (lv_at hl 2 rfl) ?_
            refine lv_bipush (v := 100) hx hb dX12_mark_124 (by decide) ?_
            refine lv_idiv hx hb dX12_mark_126 (by decide) ?_
            refine lv_re e3 ?_
            refine va_iast hx hb hK.1 hP hD hS 3 1 rfl rfl (i := k38) (ix (by omega) (by omega)) dX12_mark_127 (fun H locs hP hD hS => ?_)
            obtain ⟨g44, e45⟩ : ∃ y : Nat → Int32, y = upd f12_markLine k38.toNatClampNeg x2 := ⟨_, rfl⟩
            rw [← e45] at hP hD
            obtain ⟨hP, hD⟩ : PD D A [O12 a12 r12 v12_keptMany v12_done v12_sheets v12_holes v12_worms v12_laidMany v12_wanted v12_orderMany v12_firstOrder v12_lines v12_marks v12_dots v12_madeIn v12_bound v12_places v12_maps v12_tapeMany v12_stories v12_base v12_at v12_ends v12_fault v12_opened v12_bodies v12_ran v12_ownKind v12_ownNumber, (cI κ (r12 8) 40 f12_sheetOf), (cI κ (r12 21) 20 f12_lineSheet), (cI κ (r12 24) 60 g44), (cI κ (r12 25) 60 f12_markHole), (cZ κ (r12 26) 60 f12_isOver)] H := ⟨hP, hD⟩
            have h46 : ∀ j : Nat, 0 ≤ (g44 j).toInt ∧ (g44 j).toInt ≤ 19 := by rw [e45]; exact all_upd (P := fun z => 0 ≤ z.toInt ∧ z.toInt ≤ 19) hf12_markLine (by omega)
            refine lv_aload_n hx hb dX12_mark_128 rfl (lv_at hl 1 rfl) ?_
            refine va_get (D := D) (ci := 12) (v := .ref (r12 25)) (C := RX12) (T := TX12) (N := 63) hx hb hts w1 hown hK.1 hP 0 rfl rfl 25 (by decide) w6 (fun _ h9 => h9) rfl dX12_mark_129 ?_
            refine lv_iload_n hx hb dX12_mark_132 rfl (lv_at hl 0 rfl) ?_
            refine lv_iload_n hx hb dX12_mark_133 rfl (lv_at hl 2 rfl) ?_
            refine lv_bipush (v := 100) hx hb dX12_mark_134 (by decide) ?_
            refine lv_irem hx hb dX12_mark_136 (by decide) ?_
            refine lv_re e19 ?_
            refine va_iast hx hb hK.1 hP hD hS 4 1 rfl rfl (i := k38) (ix (by omega) (by omega)) dX12_mark_137 (fun H locs hP hD hS => ?_)
            obtain ⟨g47, e48⟩ : ∃ y : Nat → Int32, y = upd f12_markHole k38.toNatClampNeg x18 := ⟨_, rfl⟩
            rw [← e48] at hP hD
            obtain ⟨hP, hD⟩ : PD D A [O12 a12 r12 v12_keptMany v12_done v12_sheets v12_holes v12_worms v12_laidMany v12_wanted v12_orderMany v12_firstOrder v12_lines v12_marks v12_dots v12_madeIn v12_bound v12_places v12_maps v12_tapeMany v12_stories v12_base v12_at v12_ends v12_fault v12_opened v12_bodies v12_ran v12_ownKind v12_ownNumber, (cI κ (r12 8) 40 f12_sheetOf), (cI κ (r12 21) 20 f12_lineSheet), (cI κ (r12 24) 60 g44), (cI κ (r12 25) 60 g47), (cZ κ (r12 26) 60 f12_isOver)] H := ⟨hP, hD⟩
            have h49 : ∀ j : Nat, 0 ≤ (g47 j).toInt ∧ (g47 j).toInt ≤ 39 := by rw [e48]; exact all_upd (P := fun z => 0 ≤ z.toInt ∧ z.toInt ≤ 39) hf12_markHole (by omega)
            refine lv_aload_n hx hb dX12_mark_138 rfl (lv_at hl 1 rfl) ?_
            refine va_get (D := D) (ci := 12) (v := .ref (r12 26)) (C := RX12) (T := TX12) (N := 63) hx hb hts w1 hown hK.1 hP 0 rfl rfl 26 (by decide) w7 (fun _ h9 => h9) rfl dX12_mark_139 ?_
            refine lv_iload_n hx hb dX12_mark_142 rfl (lv_at hl 0 rfl) ?_
            refine lv_iload_n hx hb dX12_mark_143 rfl (lv_at hl 3 rfl) ?_
            refine lv_iconst (v := 1) hx hb dX12_mark_144 (by decide) ?_
            refine lv_icmp_ne (tgt := 152) hx hb dX12_mark_145 (by decide) (fun c50 => ?_) (fun c50 => ?_)
            · have c50 := ci_ne c50
              refine lv_iconst (v := 0) hx hb dX12_mark_152 (by decide) ?_
              refine va_zast hx hb hK.1 hP hD hS 5 3 rfl rfl (i := k38) (ix (by omega) (by omega)) dX12_mark_153 (fun H locs hP hD hS => ?_)
              obtain ⟨g51, e52⟩ : ∃ y : Nat → Int32, y = upd f12_isOver k38.toNatClampNeg (vp_nar .boolean 0) := ⟨_, rfl⟩
              rw [← e52] at hP hD
              obtain ⟨hP, hD⟩ : PD D A [O12 a12 r12 v12_keptMany v12_done v12_sheets v12_holes v12_worms v12_laidMany v12_wanted v12_orderMany v12_firstOrder v12_lines v12_marks v12_dots v12_madeIn v12_bound v12_places v12_maps v12_tapeMany v12_stories v12_base v12_at v12_ends v12_fault v12_opened v12_bodies v12_ran v12_ownKind v12_ownNumber, (cI κ (r12 8) 40 f12_sheetOf), (cI κ (r12 21) 20 f12_lineSheet), (cI κ (r12 24) 60 g44), (cI κ (r12 25) 60 g47), (cZ κ (r12 26) 60 g51)] H := ⟨hP, hD⟩
              refine lv_aload_n hx hb dX12_mark_154 rfl (lv_at hl 1 rfl) ?_
              refine lv_iload_n hx hb dX12_mark_155 rfl (lv_at hl 0 rfl) ?_
              refine lv_aload_n hx hb dX12_mark_156 rfl (lv_at hl 1 rfl) ?_
              refine va_get (D := D) (ci := 12) (v := .int v12_marks) (C := RX12) (T := TX12) (N := 63) hx hb hts w1 hown hK.1 hP 0 rfl rfl 23 (by decide) w4 (fun _ h9 => h9) rfl dX12_mark_157 ?_
              refine lv_icmp_ne (tgt := 172) hx hb dX12_mark_160 (by decide) (fun c53 => ?_) (fun c53 => ?_)
              · have c53 := ci_ne c53
                refine lv_aload_n hx hb dX12_mark_172 rfl (lv_at hl 1 rfl) ?_
                refine va_get (D := D) (ci := 12) (v := .int v12_marks) (C := RX12) (T := TX12) (N := 63) hx hb hts w1 hown hK.1 hP 0 rfl rfl 23 (by decide) w4 (fun _ h9 => h9) rfl dX12_mark_173 ?_
                refine va_put (D := D) (ci := 12) (v := .int v12_marks) (ty := .int) (C := RX12) (T := TX12) (N := 63) hx hb hts w1 tyX12 tyX12_ok nmX12 hown hK.1 hP hD hS 0 rfl rfl 23 (by decide) w4 (fun _ h9 => h9) rfl (by decide +kernel) rfl rfl (Nat.le_of_ble_eq_true rfl) dX12_mark_176 (fun H locs hP hD hS => ?_)
                obtain ⟨hP, hD⟩ : PD D A [O12 a12 r12 v12_keptMany v12_done v12_sheets v12_holes v12_worms v12_laidMany v12_wanted v12_orderMany v12_firstOrder v12_lines v12_marks v12_dots v12_madeIn v12_bound v12_places v12_maps v12_tapeMany v12_stories v12_base v12_at v12_ends v12_fault v12_opened v12_bodies v12_ran v12_ownKind v12_ownNumber, (cI κ (r12 8) 40 f12_sheetOf), (cI κ (r12 21) 20 f12_lineSheet), (cI κ (r12 24) 60 g44), (cI κ (r12 25) 60 g47), (cZ κ (r12 26) 60 g51)] H := ⟨hP, hD⟩
                refine lv_aload_n hx hb dX12_mark_179 rfl (lv_at hl 1 rfl) ?_
                refine va_get (D := D) (ci := 12) (v := .int v12_marks) (C := RX12) (T := TX12) (N := 63) hx hb hts w1 hown hK.1 hP 0 rfl rfl 23 (by decide) w4 (fun _ h9 => h9) rfl dX12_mark_180 ?_
                have hpo : (0 ≤ v12_marks.toInt ∧ v12_marks.toInt ≤ 60) ∧ (∀ j : Nat, 0 ≤ (g44 j).toInt ∧ (g44 j).toInt ≤ 19) ∧ (∀ j : Nat, 0 ≤ (g47 j).toInt ∧ (g47 j).toInt ≤ 39) := ⟨i9, h46, h49⟩
                exact ret _ _ _ _ v12_marks (v12_marks, g44, g47, g51) dX12_mark_183 hpo hP hD hS
              have c53 := ci_eq c53
              refine lv_aload_n hx hb dX12_mark_163 rfl (lv_at hl 1 rfl) ?_
              refine va_get (D := D) (ci := 12) (v := .int v12_marks) (C := RX12) (T := TX12) (N := 63) hx hb hts w1 hown hK.1 hP 0 rfl rfl 23 (by decide) w4 (fun _ h9 => h9) rfl dX12_mark_164 ?_
              refine lv_iconst (v := 1) hx hb dX12_mark_167 (by decide) ?_
              refine lv_iadd hx hb dX12_mark_168 ?_
              refine lv_topi (fun x54 e55 => ?_)
              try have h56 : x54.toInt = v12_marks.toInt + (1 : Int32).toInt := ci_add e55 (by omega) (by omega)
              refine lv_goto (tgt := 176) hx hb dX12_mark_169 (by decide) ?_
              refine va_put (D := D) (ci := 12) (v := .int x54) (ty := .int) (C := RX12) (T := TX12) (N := 63) hx hb hts w1 tyX12 tyX12_ok nmX12 hown hK.1 hP hD hS 0 rfl rfl 23 (by decide) w4 (fun _ h9 => h9) rfl (by decide +kernel) rfl rfl (Nat.le_of_ble_eq_true rfl) dX12_mark_176 (fun H locs hP hD hS => ?_)
              obtain ⟨hP, hD⟩ : PD D A [O12 a12 r12 v12_keptMany v12_done v12_sheets v12_holes v12_worms v12_laidMany v12_wanted v12_orderMany v12_firstOrder v12_lines x54 v12_dots v12_madeIn v12_bound v12_places v12_maps v12_tapeMany v12_stories v12_base v12_at v12_ends v12_fault v12_opened v12_bodies v12_ran v12_ownKind v12_ownNumber, (cI κ (r12 8) 40 f12_sheetOf), (cI κ (r12 21) 20 f12_lineSheet), (cI κ (r12 24) 60 g44), (cI κ (r12 25) 60 g47), (cZ κ (r12 26) 60 g51)] H := ⟨hP, hD⟩
              have h57 : 0 ≤ x54.toInt ∧ x54.toInt ≤ 60 := by omega
              refine lv_aload_n hx hb dX12_mark_179 rfl (lv_at hl 1 rfl) ?_
              refine va_get (D := D) (ci := 12) (v := .int x54) (C := RX12) (T := TX12) (N := 63) hx hb hts w1 hown hK.1 hP 0 rfl rfl 23 (by decide) w4 (fun _ h9 => h9) rfl dX12_mark_180 ?_
              have hpo : (0 ≤ x54.toInt ∧ x54.toInt ≤ 60) ∧ (∀ j : Nat, 0 ≤ (g44 j).toInt ∧ (g44 j).toInt ≤ 19) ∧ (∀ j : Nat, 0 ≤ (g47 j).toInt ∧ (g47 j).toInt ≤ 39) := ⟨h57, h46, h49⟩
              exact ret _ _ _ _ x54 (x54, g44, g47, g51) dX12_mark_183 hpo hP hD hS
            have c50 := ci_eq c50
            refine lv_iconst (v := 1) hx hb dX12_mark_148 (by decide) ?_
            refine lv_goto (tgt := 153) hx hb dX12_mark_149 (by decide) ?_
            refine va_zast hx hb hK.1 hP hD hS 5 3 rfl rfl (i := k38) (ix (by omega) (by omega)) dX12_mark_153 (fun H locs hP hD hS => ?_)
            obtain ⟨g58, e59⟩ : ∃ y : Nat → Int32, y = upd f12_isOver k38.toNatClampNeg (vp_nar .boolean 1) := ⟨_, rfl⟩
            rw [← e59] at hP hD
            obtain ⟨hP, hD⟩ : PD D A [O12 a12 r12 v12_keptMany v12_done v12_sheets v12_holes v12_worms v12_laidMany v12_wanted v12_orderMany v12_firstOrder v12_lines v12_marks v12_dots v12_madeIn v12_bound v12_places v12_maps v12_tapeMany v12_stories v12_base v12_at v12_ends v12_fault v12_opened v12_bodies v12_ran v12_ownKind v12_ownNumber, (cI κ (r12 8) 40 f12_sheetOf), (cI κ (r12 21) 20 f12_lineSheet), (cI κ (r12 24) 60 g44), (cI κ (r12 25) 60 g47), (cZ κ (r12 26) 60 g58)] H := ⟨hP, hD⟩
            refine lv_aload_n hx hb dX12_mark_154 rfl (lv_at hl 1 rfl) ?_
            refine lv_iload_n hx hb dX12_mark_155 rfl (lv_at hl 0 rfl) ?_
            refine lv_aload_n hx hb dX12_mark_156 rfl (lv_at hl 1 rfl) ?_
            refine va_get (D := D) (ci := 12) (v := .int v12_marks) (C := RX12) (T := TX12) (N := 63) hx hb hts w1 hown hK.1 hP 0 rfl rfl 23 (by decide) w4 (fun _ h9 => h9) rfl dX12_mark_157 ?_
            refine lv_icmp_ne (tgt := 172) hx hb dX12_mark_160 (by decide) (fun c60 => ?_) (fun c60 => ?_)
            · have c60 := ci_ne c60
              refine lv_aload_n hx hb dX12_mark_172 rfl (lv_at hl 1 rfl) ?_
              refine va_get (D := D) (ci := 12) (v := .int v12_marks) (C := RX12) (T := TX12) (N := 63) hx hb hts w1 hown hK.1 hP 0 rfl rfl 23 (by decide) w4 (fun _ h9 => h9) rfl dX12_mark_173 ?_
              refine va_put (D := D) (ci := 12) (v := .int v12_marks) (ty := .int) (C := RX12) (T := TX12) (N := 63) hx hb hts w1 tyX12 tyX12_ok nmX12 hown hK.1 hP hD hS 0 rfl rfl 23 (by decide) w4 (fun _ h9 => h9) rfl (by decide +kernel) rfl rfl (Nat.le_of_ble_eq_true rfl) dX12_mark_176 (fun H locs hP hD hS => ?_)
              obtain ⟨hP, hD⟩ : PD D A [O12 a12 r12 v12_keptMany v12_done v12_sheets v12_holes v12_worms v12_laidMany v12_wanted v12_orderMany v12_firstOrder v12_lines v12_marks v12_dots v12_madeIn v12_bound v12_places v12_maps v12_tapeMany v12_stories v12_base v12_at v12_ends v12_fault v12_opened v12_bodies v12_ran v12_ownKind v12_ownNumber, (cI κ (r12 8) 40 f12_sheetOf), (cI κ (r12 21) 20 f12_lineSheet), (cI κ (r12 24) 60 g44), (cI κ (r12 25) 60 g47), (cZ κ (r12 26) 60 g58)] H := ⟨hP, hD⟩
              refine lv_aload_n hx hb dX12_mark_179 rfl (lv_at hl 1 rfl) ?_
              refine va_get (D := D) (ci := 12) (v := .int v12_marks) (C := RX12) (T := TX12) (N := 63) hx hb hts w1 hown hK.1 hP 0 rfl rfl 23 (by decide) w4 (fun _ h9 => h9) rfl dX12_mark_180 ?_
              have hpo : (0 ≤ v12_marks.toInt ∧ v12_marks.toInt ≤ 60) ∧ (∀ j : Nat, 0 ≤ (g44 j).toInt ∧ (g44 j).toInt ≤ 19) ∧ (∀ j : Nat, 0 ≤ (g47 j).toInt ∧ (g47 j).toInt ≤ 39) := ⟨i9, h46, h49⟩
              exact ret _ _ _ _ v12_marks (v12_marks, g44, g47, g58) dX12_mark_183 hpo hP hD hS
            have c60 := ci_eq c60
            refine lv_aload_n hx hb dX12_mark_163 rfl (lv_at hl 1 rfl) ?_
            refine va_get (D := D) (ci := 12) (v := .int v12_marks) (C := RX12) (T := TX12) (N := 63) hx hb hts w1 hown hK.1 hP 0 rfl rfl 23 (by decide) w4 (fun _ h9 => h9) rfl dX12_mark_164 ?_
            refine lv_iconst (v := 1) hx hb dX12_mark_167 (by decide) ?_
            refine lv_iadd hx hb dX12_mark_168 ?_
            refine lv_topi (fun x61 e62 => ?_)
            try have h63 : x61.toInt = v12_marks.toInt + (1 : Int32).toInt := ci_add e62 (by omega) (by omega)
            refine lv_goto (tgt := 176) hx hb dX12_mark_169 (by decide) ?_
            refine va_put (D := D) (ci := 12) (v := .int x61) (ty := .int) (C := RX12) (T := TX12) (N := 63) hx hb hts w1 tyX12 tyX12_ok nmX12 hown hK.1 hP hD hS 0 rfl rfl 23 (by decide) w4 (fun _ h9 => h9) rfl (by decide +kernel) rfl rfl (Nat.le_of_ble_eq_true rfl) dX12_mark_176 (fun H locs hP hD hS => ?_)
            obtain ⟨hP, hD⟩ : PD D A [O12 a12 r12 v12_keptMany v12_done v12_sheets v12_holes v12_worms v12_laidMany v12_wanted v12_orderMany v12_firstOrder v12_lines x61 v12_dots v12_madeIn v12_bound v12_places v12_maps v12_tapeMany v12_stories v12_base v12_at v12_ends v12_fault v12_opened v12_bodies v12_ran v12_ownKind v12_ownNumber, (cI κ (r12 8) 40 f12_sheetOf), (cI κ (r12 21) 20 f12_lineSheet), (cI κ (r12 24) 60 g44), (cI κ (r12 25) 60 g47), (cZ κ (r12 26) 60 g58)] H := ⟨hP, hD⟩
            have h64 : 0 ≤ x61.toInt ∧ x61.toInt ≤ 60 := by omega
            refine lv_aload_n hx hb dX12_mark_179 rfl (lv_at hl 1 rfl) ?_
            refine va_get (D := D) (ci := 12) (v := .int x61) (C := RX12) (T := TX12) (N := 63) hx hb hts w1 hown hK.1 hP 0 rfl rfl 23 (by decide) w4 (fun _ h9 => h9) rfl dX12_mark_180 ?_
            have hpo : (0 ≤ x61.toInt ∧ x61.toInt ≤ 60) ∧ (∀ j : Nat, 0 ≤ (g44 j).toInt ∧ (g44 j).toInt ≤ 19) ∧ (∀ j : Nat, 0 ≤ (g47 j).toInt ∧ (g47 j).toInt ≤ 39) := ⟨h64, h46, h49⟩
            exact ret _ _ _ _ x61 (x61, g44, g47, g58) dX12_mark_183 hpo hP hD hS
          have c43 := ci_eq c43
          refine lv_bipush (v := (-3)) hx hb dX12_mark_115 (by decide) ?_
          have hpo : (0 ≤ v12_marks.toInt ∧ v12_marks.toInt ≤ 60) ∧ (∀ j : Nat, 0 ≤ (f12_markLine j).toInt ∧ (f12_markLine j).toInt ≤ 19) ∧ (∀ j : Nat, 0 ≤ (f12_markHole j).toInt ∧ (f12_markHole j).toInt ≤ 39) := ⟨i9, hf12_markLine, hf12_markHole⟩
          exact ret _ _ _ _ (-3) (v12_marks, f12_markLine, f12_markHole, f12_isOver) dX12_mark_117 hpo hP hD hS
        have c42 := ci_nle c42
        refine lv_aload_n hx hb dX12_mark_77 rfl (lv_at hl 1 rfl) ?_
        refine va_get (D := D) (ci := 12) (v := .ref (r12 24)) (C := RX12) (T := TX12) (N := 63) hx hb hts w1 hown hK.1 hP 0 rfl rfl 24 (by decide) w5 (fun _ h9 => h9) rfl dX12_mark_78 ?_
        refine lv_iload_n hx hb dX12_mark_81 rfl (lv_at hl 0 rfl) ?_
        refine va_iald hx hb hK.1 hP 3 1 rfl rfl (i := k38) (ix (by omega) (by omega)) dX12_mark_82 ?_
        refine lv_topi (fun x65 e66 => ?_)
        have h67 : 0 ≤ x65.toInt ∧ x65.toInt ≤ 19 := by rw [e66]; exact hf12_markLine _
        refine lv_iload_n hx hb dX12_mark_83 rfl (lv_at hl 2 rfl) ?_
        refine lv_bipush (v := 100) hx hb dX12_mark_84 (by decide) ?_
        refine lv_idiv hx hb dX12_mark_86 (by decide) ?_
        refine lv_re e3 ?_
        refine lv_icmp_ne (tgt := 103) hx hb dX12_mark_87 (by decide) (fun c68 => ?_) (fun c68 => ?_)
        · have c68 := ci_ne c68
          obtain ⟨x69, e70⟩ : ∃ y : Int32, y = k38 + 1 := ⟨_, rfl⟩
          refine lv_iinc (v := x69) (lv' := [(3, .int x69), (0, .ref a12), (1, .int p1), (2, .int p2)]) hx hb dX12_mark_103 hl (k := 0) rfl (by rw [e70]; rfl) (by decide) rfl (fun ls hl => ?_)
          try have h71 : x69.toInt = k38.toInt + (1 : Int32).toInt := ci_add e70 (by omega) (by omega)
          refine lv_goto (tgt := 69) hx hb dX12_mark_106 (by decide) ?_
          exact ih69 x69 (by omega) (by omega) (by omega) _ _ hP hD hS _ hl
        have c68 := ci_eq c68
        refine lv_aload_n hx hb dX12_mark_90 rfl (lv_at hl 1 rfl) ?_
        refine va_get (D := D) (ci := 12) (v := .ref (r12 25)) (C := RX12) (T := TX12) (N := 63) hx hb hts w1 hown hK.1 hP 0 rfl rfl 25 (by decide) w6 (fun _ h9 => h9) rfl dX12_mark_91 ?_
        refine lv_iload_n hx hb dX12_mark_94 rfl (lv_at hl 0 rfl) ?_
        refine va_iald hx hb hK.1 hP 4 1 rfl rfl (i := k38) (ix (by omega) (by omega)) dX12_mark_95 ?_
        refine lv_topi (fun x72 e73 => ?_)
        have h74 : 0 ≤ x72.toInt ∧ x72.toInt ≤ 39 := by rw [e73]; exact hf12_markHole _
        refine lv_iload_n hx hb dX12_mark_96 rfl (lv_at hl 2 rfl) ?_
        refine lv_bipush (v := 100) hx hb dX12_mark_97 (by decide) ?_
        refine lv_irem hx hb dX12_mark_99 (by decide) ?_
        refine lv_re e19 ?_
        refine lv_icmp_eq (tgt := 109) hx hb dX12_mark_100 (by decide) (fun c75 => ?_) (fun c75 => ?_)
        · have c75 := ci_eq c75
          refine lv_iload_n hx hb dX12_mark_109 rfl (lv_at hl 0 rfl) ?_
          refine lv_bipush (v := 60) hx hb dX12_mark_110 (by decide) ?_
          refine lv_icmp_ne (tgt := 118) hx hb dX12_mark_112 (by decide) (fun c76 => ?_) (fun c76 => ?_)
          · have c76 := ci_ne c76
            refine lv_aload_n hx hb dX12_mark_118 rfl (lv_at hl 1 rfl) ?_
            refine va_get (D := D) (ci := 12) (v := .ref (r12 24)) (C := RX12) (T := TX12) (N := 63) hx hb hts w1 hown hK.1 hP 0 rfl rfl 24 (by decide) w5 (fun _ h9 => h9) rfl dX12_mark_119 ?_
            refine lv_iload_n hx hb dX12_mark_122 rfl (lv_at hl 0 rfl) ?_
            refine lv_iload_n hx hb dX12_mark_123 rfl (lv_at hl 2 rfl) ?_
            refine lv_bipush (v := 100) hx hb dX12_mark_124 (by decide) ?_
            refine lv_idiv hx hb dX12_mark_126 (by decide) ?_
            refine lv_re e3 ?_
            refine va_iast hx hb hK.1 hP hD hS 3 1 rfl rfl (i := k38) (ix (by omega) (by omega)) dX12_mark_127 (fun H locs hP hD hS => ?_)
            obtain ⟨g77, e78⟩ : ∃ y : Nat → Int32, y = upd f12_markLine k38.toNatClampNeg x2 := ⟨_, rfl⟩
            rw [← e78] at hP hD
            obtain ⟨hP, hD⟩ : PD D A [O12 a12 r12 v12_keptMany v12_done v12_sheets v12_holes v12_worms v12_laidMany v12_wanted v12_orderMany v12_firstOrder v12_lines v12_marks v12_dots v12_madeIn v12_bound v12_places v12_maps v12_tapeMany v12_stories v12_base v12_at v12_ends v12_fault v12_opened v12_bodies v12_ran v12_ownKind v12_ownNumber, (cI κ (r12 8) 40 f12_sheetOf), (cI κ (r12 21) 20 f12_lineSheet), (cI κ (r12 24) 60 g77), (cI κ (r12 25) 60 f12_markHole), (cZ κ (r12 26) 60 f12_isOver)] H := ⟨hP, hD⟩
            have h79 : ∀ j : Nat, 0 ≤ (g77 j).toInt ∧ (g77 j).toInt ≤ 19 := by rw [e78]; exact all_upd (P := fun z => 0 ≤ z.toInt ∧ z.toInt ≤ 19) hf12_markLine (by omega)
            refine lv_aload_n hx hb dX12_mark_128 rfl (lv_at hl 1 rfl) ?_
            refine va_get (D := D) (ci := 12) (v := .ref (r12 25)) (C := RX12) (T := TX12) (N := 63) hx hb hts w1 hown hK.1 hP 0 rfl rfl 25 (by decide) w6 (fun _ h9 => h9) rfl dX12_mark_129 ?_
            refine lv_iload_n hx hb dX12_mark_132 rfl (lv_at hl 0 rfl) ?_
            refine lv_iload_n hx hb dX12_mark_133 rfl (lv_at hl 2 rfl) ?_
            refine lv_bipush (v := 100) hx hb dX12_mark_134 (by decide) ?_
            refine lv_irem hx hb dX12_mark_136 (by decide) ?_
            refine lv_re e19 ?_
            refine va_iast hx hb hK.1 hP hD hS 4 1 rfl rfl (i := k38) (ix (by omega) (by omega)) dX12_mark_137 (fun H locs hP hD hS => ?_)
            obtain ⟨g80, e81⟩ : ∃ y : Nat → Int32, y = upd f12_markHole k38.toNatClampNeg x18 := ⟨_, rfl⟩
            rw [← e81] at hP hD
            obtain ⟨hP, hD⟩ : PD D A [O12 a12 r12 v12_keptMany v12_done v12_sheets v12_holes v12_worms v12_laidMany v12_wanted v12_orderMany v12_firstOrder v12_lines v12_marks v12_dots v12_madeIn v12_bound v12_places v12_maps v12_tapeMany v12_stories v12_base v12_at v12_ends v12_fault v12_opened v12_bodies v12_ran v12_ownKind v12_ownNumber, (cI κ (r12 8) 40 f12_sheetOf), (cI κ (r12 21) 20 f12_lineSheet), (cI κ (r12 24) 60 g77), (cI κ (r12 25) 60 g80), (cZ κ (r12 26) 60 f12_isOver)] H := ⟨hP, hD⟩
            have h82 : ∀ j : Nat, 0 ≤ (g80 j).toInt ∧ (g80 j).toInt ≤ 39 := by rw [e81]; exact all_upd (P := fun z => 0 ≤ z.toInt ∧ z.toInt ≤ 39) hf12_markHole (by omega)
            refine lv_aload_n hx hb dX12_mark_138 rfl (lv_at hl 1 rfl) ?_
            refine va_get (D := D) (ci := 12) (v := .ref (r12 26)) (C := RX12) (T := TX12) (N := 63) hx hb hts w1 hown hK.1 hP 0 rfl rfl 26 (by decide) w7 (fun _ h9 => h9) rfl dX12_mark_139 ?_
            refine lv_iload_n hx hb dX12_mark_142 rfl (lv_at hl 0 rfl) ?_
            refine lv_iload_n hx hb dX12_mark_143 rfl (lv_at hl 3 rfl) ?_
            refine lv_iconst (v := 1) hx hb dX12_mark_144 (by decide) ?_
            refine lv_icmp_ne (tgt := 152) hx hb dX12_mark_145 (by decide) (fun c83 => ?_) (fun c83 => ?_)
            · have c83 := ci_ne c83
              refine lv_iconst (v := 0) hx hb dX12_mark_152 (by decide) ?_
              refine va_zast hx hb hK.1 hP hD hS 5 3 rfl rfl (i := k38) (ix (by omega) (by omega)) dX12_mark_153 (fun H locs hP hD hS => ?_)
              obtain ⟨g84, e85⟩ : ∃ y : Nat → Int32, y = upd f12_isOver k38.toNatClampNeg (vp_nar .boolean 0) := ⟨_, rfl⟩
              rw [← e85] at hP hD
              obtain ⟨hP, hD⟩ : PD D A [O12 a12 r12 v12_keptMany v12_done v12_sheets v12_holes v12_worms v12_laidMany v12_wanted v12_orderMany v12_firstOrder v12_lines v12_marks v12_dots v12_madeIn v12_bound v12_places v12_maps v12_tapeMany v12_stories v12_base v12_at v12_ends v12_fault v12_opened v12_bodies v12_ran v12_ownKind v12_ownNumber, (cI κ (r12 8) 40 f12_sheetOf), (cI κ (r12 21) 20 f12_lineSheet), (cI κ (r12 24) 60 g77), (cI κ (r12 25) 60 g80), (cZ κ (r12 26) 60 g84)] H := ⟨hP, hD⟩
              refine lv_aload_n hx hb dX12_mark_154 rfl (lv_at hl 1 rfl) ?_
              refine lv_iload_n hx hb dX12_mark_155 rfl (lv_at hl 0 rfl) ?_
              refine lv_aload_n hx hb dX12_mark_156 rfl (lv_at hl 1 rfl) ?_
              refine va_get (D := D) (ci := 12) (v := .int v12_marks) (C := RX12) (T := TX12) (N := 63) hx hb hts w1 hown hK.1 hP 0 rfl rfl 23 (by decide) w4 (fun _ h9 => h9) rfl dX12_mark_157 ?_
              refine lv_icmp_ne (tgt := 172) hx hb dX12_mark_160 (by decide) (fun c86 => ?_) (fun c86 => ?_)
              · have c86 := ci_ne c86
                refine lv_aload_n hx hb dX12_mark_172 rfl (lv_at hl 1 rfl) ?_
                refine va_get (D := D) (ci := 12) (v := .int v12_marks) (C := RX12) (T := TX12) (N := 63) hx hb hts w1 hown hK.1 hP 0 rfl rfl 23 (by decide) w4 (fun _ h9 => h9) rfl dX12_mark_173 ?_
                refine va_put (D := D) (ci := 12) (v := .int v12_marks) (ty := .int) (C := RX12) (T := TX12) (N := 63) hx hb hts w1 tyX12 tyX12_ok nmX12 hown hK.1 hP hD hS 0 rfl rfl 23 (by decide) w4 (fun _ h9 => h9) rfl (by decide +kernel) rfl rfl (Nat.le_of_ble_eq_true rfl) dX12_mark_176 (fun H locs hP hD hS => ?_)
                obtain ⟨hP, hD⟩ : PD D A [O12 a12 r12 v12_keptMany v12_done v12_sheets v12_holes v12_worms v12_laidMany v12_wanted v12_orderMany v12_firstOrder v12_lines v12_marks v12_dots v12_madeIn v12_bound v12_places v12_maps v12_tapeMany v12_stories v12_base v12_at v12_ends v12_fault v12_opened v12_bodies v12_ran v12_ownKind v12_ownNumber, (cI κ (r12 8) 40 f12_sheetOf), (cI κ (r12 21) 20 f12_lineSheet), (cI κ (r12 24) 60 g77), (cI κ (r12 25) 60 g80), (cZ κ (r12 26) 60 g84)] H := ⟨hP, hD⟩
                refine lv_aload_n hx hb dX12_mark_179 rfl (lv_at hl 1 rfl) ?_
                refine va_get (D := D) (ci := 12) (v := .int v12_marks) (C := RX12) (T := TX12) (N := 63) hx hb hts w1 hown hK.1 hP 0 rfl rfl 23 (by decide) w4 (fun _ h9 => h9) rfl dX12_mark_180 ?_
                have hpo : (0 ≤ v12_marks.toInt ∧ v12_marks.toInt ≤ 60) ∧ (∀ j : Nat, 0 ≤ (g77 j).toInt ∧ (g77 j).toInt ≤ 19) ∧ (∀ j : Nat, 0 ≤ (g80 j).toInt ∧ (g80 j).toInt ≤ 39) := ⟨i9, h79, h82⟩
                exact ret _ _ _ _ v12_marks (v12_marks, g77, g80, g84) dX12_mark_183 hpo hP hD hS
              have c86 := ci_eq c86
              refine lv_aload_n hx hb dX12_mark_163 rfl (lv_at hl 1 rfl) ?_
              refine va_get (D := D) (ci := 12) (v := .int v12_marks) (C := RX12) (T := TX12) (N := 63) hx hb hts w1 hown hK.1 hP 0 rfl rfl 23 (by decide) w4 (fun _ h9 => h9) rfl dX12_mark_164 ?_
              refine lv_iconst (v := 1) hx hb dX12_mark_167 (by decide) ?_
              refine lv_iadd hx hb dX12_mark_168 ?_
              refine lv_topi (fun x87 e88 => ?_)
              try have h89 : x87.toInt = v12_marks.toInt + (1 : Int32).toInt := ci_add e88 (by omega) (by omega)
              refine lv_goto (tgt := 176) hx hb dX12_mark_169 (by decide) ?_
              refine va_put (D := D) (ci := 12) (v := .int x87) (ty := .int) (C := RX12) (T := TX12) (N := 63) hx hb hts w1 tyX12 tyX12_ok nmX12 hown hK.1 hP hD hS 0 rfl rfl 23 (by decide) w4 (fun _ h9 => h9) rfl (by decide +kernel) rfl rfl (Nat.le_of_ble_eq_true rfl) dX12_mark_176 (fun H locs hP hD hS => ?_)
              obtain ⟨hP, hD⟩ : PD D A [O12 a12 r12 v12_keptMany v12_done v12_sheets v12_holes v12_worms v12_laidMany v12_wanted v12_orderMany v12_firstOrder v12_lines x87 v12_dots v12_madeIn v12_bound v12_places v12_maps v12_tapeMany v12_stories v12_base v12_at v12_ends v12_fault v12_opened v12_bodies v12_ran v12_ownKind v12_ownNumber, (cI κ (r12 8) 40 f12_sheetOf), (cI κ (r12 21) 20 f12_lineSheet), (cI κ (r12 24) 60 g77), (cI κ (r12 25) 60 g80), (cZ κ (r12 26) 60 g84)] H := ⟨hP, hD⟩
              have h90 : 0 ≤ x87.toInt ∧ x87.toInt ≤ 60 := by omega
              refine lv_aload_n hx hb dX12_mark_179 rfl (lv_at hl 1 rfl) ?_
              refine va_get (D := D) (ci := 12) (v := .int x87) (C := RX12) (T := TX12) (N := 63) hx hb hts w1 hown hK.1 hP 0 rfl rfl 23 (by decide) w4 (fun _ h9 => h9) rfl dX12_mark_180 ?_
              have hpo : (0 ≤ x87.toInt ∧ x87.toInt ≤ 60) ∧ (∀ j : Nat, 0 ≤ (g77 j).toInt ∧ (g77 j).toInt ≤ 19) ∧ (∀ j : Nat, 0 ≤ (g80 j).toInt ∧ (g80 j).toInt ≤ 39) := ⟨h90, h79, h82⟩
              exact ret _ _ _ _ x87 (x87, g77, g80, g84) dX12_mark_183 hpo hP hD hS
            have c83 := ci_eq c83
            refine lv_iconst (v := 1) hx hb dX12_mark_148 (by decide) ?_
            refine lv_goto (tgt := 153) hx hb dX12_mark_149 (by decide) ?_
            refine va_zast hx hb hK.1 hP hD hS 5 3 rfl rfl (i := k38) (ix (by omega) (by omega)) dX12_mark_153 (fun H locs hP hD hS => ?_)
            obtain ⟨g91, e92⟩ : ∃ y : Nat → Int32, y = upd f12_isOver k38.toNatClampNeg (vp_nar .boolean 1) := ⟨_, rfl⟩
            rw [← e92] at hP hD
            obtain ⟨hP, hD⟩ : PD D A [O12 a12 r12 v12_keptMany v12_done v12_sheets v12_holes v12_worms v12_laidMany v12_wanted v12_orderMany v12_firstOrder v12_lines v12_marks v12_dots v12_madeIn v12_bound v12_places v12_maps v12_tapeMany v12_stories v12_base v12_at v12_ends v12_fault v12_opened v12_bodies v12_ran v12_ownKind v12_ownNumber, (cI κ (r12 8) 40 f12_sheetOf), (cI κ (r12 21) 20 f12_lineSheet), (cI κ (r12 24) 60 g77), (cI κ (r12 25) 60 g80), (cZ κ (r12 26) 60 g91)] H := ⟨hP, hD⟩
            refine lv_aload_n hx hb dX12_mark_154 rfl (lv_at hl 1 rfl) ?_
            refine lv_iload_n hx hb dX12_mark_155 rfl (lv_at hl 0 rfl) ?_
            refine lv_aload_n hx hb dX12_mark_156 rfl (lv_at hl 1 rfl) ?_
            refine va_get (D := D) (ci := 12) (v := .int v12_marks) (C := RX12) (T := TX12) (N := 63) hx hb hts w1 hown hK.1 hP 0 rfl rfl 23 (by decide) w4 (fun _ h9 => h9) rfl dX12_mark_157 ?_
            refine lv_icmp_ne (tgt := 172) hx hb dX12_mark_160 (by decide) (fun c93 => ?_) (fun c93 => ?_)
            · have c93 := ci_ne c93
              refine lv_aload_n hx hb dX12_mark_172 rfl (lv_at hl 1 rfl) ?_
              refine va_get (D := D) (ci := 12) (v := .int v12_marks) (C := RX12) (T := TX12) (N := 63) hx hb hts w1 hown hK.1 hP 0 rfl rfl 23 (by decide) w4 (fun _ h9 => h9) rfl dX12_mark_173 ?_
              refine va_put (D := D) (ci := 12) (v := .int v12_marks) (ty := .int) (C := RX12) (T := TX12) (N := 63) hx hb hts w1 tyX12 tyX12_ok nmX12 hown hK.1 hP hD hS 0 rfl rfl 23 (by decide) w4 (fun _ h9 => h9) rfl (by decide +kernel) rfl rfl (Nat.le_of_ble_eq_true rfl) dX12_mark_176 (fun H locs hP hD hS => ?_)
              obtain ⟨hP, hD⟩ : PD D A [O12 a12 r12 v12_keptMany v12_done v12_sheets v12_holes v12_worms v12_laidMany v12_wanted v12_orderMany v12_firstOrder v12_lines v12_marks v12_dots v12_madeIn v12_bound v12_places v12_maps v12_tapeMany v12_stories v12_base v12_at v12_ends v12_fault v12_opened v12_bodies v12_ran v12_ownKind v12_ownNumber, (cI κ (r12 8) 40 f12_sheetOf), (cI κ (r12 21) 20 f12_lineSheet), (cI κ (r12 24) 60 g77), (cI κ (r12 25) 60 g80), (cZ κ (r12 26) 60 g91)] H := ⟨hP, hD⟩
              refine lv_aload_n hx hb dX12_mark_179 rfl (lv_at hl 1 rfl) ?_
              refine va_get (D := D) (ci := 12) (v := .int v12_marks) (C := RX12) (T := TX12) (N := 63) hx hb hts w1 hown hK.1 hP 0 rfl rfl 23 (by decide) w4 (fun _ h9 => h9) rfl dX12_mark_180 ?_
              have hpo : (0 ≤ v12_marks.toInt ∧ v12_marks.toInt ≤ 60) ∧ (∀ j : Nat, 0 ≤ (g77 j).toInt ∧ (g77 j).toInt ≤ 19) ∧ (∀ j : Nat, 0 ≤ (g80 j).toInt ∧ (g80 j).toInt ≤ 39) := ⟨i9, h79, h82⟩
              exact ret _ _ _ _ v12_marks (v12_marks, g77, g80, g91) dX12_mark_183 hpo hP hD hS
            have c93 := ci_eq c93
            refine lv_aload_n hx hb dX12_mark_163 rfl (lv_at hl 1 rfl) ?_
            refine va_get (D := D) (ci := 12) (v := .int v12_marks) (C := RX12) (T := TX12) (N := 63) hx hb hts w1 hown hK.1 hP 0 rfl rfl 23 (by decide) w4 (fun _ h9 => h9) rfl dX12_mark_164 ?_
            refine lv_iconst (v := 1) hx hb dX12_mark_167 (by decide) ?_
            refine lv_iadd hx hb dX12_mark_168 ?_
            refine lv_topi (fun x94 e95 => ?_)
            try have h96 : x94.toInt = v12_marks.toInt + (1 : Int32).toInt := ci_add e95 (by omega) (by omega)
            refine lv_goto (tgt := 176) hx hb dX12_mark_169 (by decide) ?_
            refine va_put (D := D) (ci := 12) (v := .int x94) (ty := .int) (C := RX12) (T := TX12) (N := 63) hx hb hts w1 tyX12 tyX12_ok nmX12 hown hK.1 hP hD hS 0 rfl rfl 23 (by decide) w4 (fun _ h9 => h9) rfl (by decide +kernel) rfl rfl (Nat.le_of_ble_eq_true rfl) dX12_mark_176 (fun H locs hP hD hS => ?_)
            obtain ⟨hP, hD⟩ : PD D A [O12 a12 r12 v12_keptMany v12_done v12_sheets v12_holes v12_worms v12_laidMany v12_wanted v12_orderMany v12_firstOrder v12_lines x94 v12_dots v12_madeIn v12_bound v12_places v12_maps v12_tapeMany v12_stories v12_base v12_at v12_ends v12_fault v12_opened v12_bodies v12_ran v12_ownKind v12_ownNumber, (cI κ (r12 8) 40 f12_sheetOf), (cI κ (r12 21) 20 f12_lineSheet), (cI κ (r12 24) 60 g77), (cI κ (r12 25) 60 g80), (cZ κ (r12 26) 60 g91)] H := ⟨hP, hD⟩
            have h97 : 0 ≤ x94.toInt ∧ x94.toInt ≤ 60 := by omega
            refine lv_aload_n hx hb dX12_mark_179 rfl (lv_at hl 1 rfl) ?_
            refine va_get (D := D) (ci := 12) (v := .int x94) (C := RX12) (T := TX12) (N := 63) hx hb hts w1 hown hK.1 hP 0 rfl rfl 23 (by decide) w4 (fun _ h9 => h9) rfl dX12_mark_180 ?_
            have hpo : (0 ≤ x94.toInt ∧ x94.toInt ≤ 60) ∧ (∀ j : Nat, 0 ≤ (g77 j).toInt ∧ (g77 j).toInt ≤ 19) ∧ (∀ j : Nat, 0 ≤ (g80 j).toInt ∧ (g80 j).toInt ≤ 39) := ⟨h97, h79, h82⟩
            exact ret _ _ _ _ x94 (x94, g77, g80, g91) dX12_mark_183 hpo hP hD hS
          have c76 := ci_eq c76
          refine lv_bipush (v := (-3)) hx hb dX12_mark_115 (by decide) ?_
          have hpo : (0 ≤ v12_marks.toInt ∧ v12_marks.toInt ≤ 60) ∧ (∀ j : Nat, 0 ≤ (f12_markLine j).toInt ∧ (f12_markLine j).toInt ≤ 19) ∧ (∀ j : Nat, 0 ≤ (f12_markHole j).toInt ∧ (f12_markHole j).toInt ≤ 39) := ⟨i9, hf12_markLine, hf12_markHole⟩
          exact ret _ _ _ _ (-3) (v12_marks, f12_markLine, f12_markHole, f12_isOver) dX12_mark_117 hpo hP hD hS
        have c75 := ci_ne c75
        obtain ⟨x98, e99⟩ : ∃ y : Int32, y = k38 + 1 := ⟨_, rfl⟩
        refine lv_iinc (v := x98) (lv' := [(3, .int x98), (0, .ref a12), (1, .int p1), (2, .int p2)]) hx hb dX12_mark_103 hl (k := 0) rfl (by rw [e99]; rfl) (by decide) rfl (fun ls hl => ?_)
        try have h100 : x98.toInt = k38.toInt + (1 : Int32).toInt := ci_add e99 (by omega) (by omega)
        refine lv_goto (tgt := 69) hx hb dX12_mark_106 (by decide) ?_
        exact ih69 x98 (by omega) (by omega) (by omega) _ _ hP hD hS _ hl
    exact lp69 ((v12_marks.toInt - (0 : Int32).toInt).toNat + 1) 0 (by omega) (by omega) (by omega) _ _ hP hD hS _ hl
  have c37 := ci_eq c37
  refine lv_iconst (v := (-1)) hx hb dX12_mark_65 (by decide) ?_
  have hpo : (0 ≤ v12_marks.toInt ∧ v12_marks.toInt ≤ 60) ∧ (∀ j : Nat, 0 ≤ (f12_markLine j).toInt ∧ (f12_markLine j).toInt ≤ 19) ∧ (∀ j : Nat, 0 ≤ (f12_markHole j).toInt ∧ (f12_markHole j).toInt ≤ 39) := ⟨i9, hf12_markLine, hf12_markHole⟩
  exact ret _ _ _ _ (-1) (v12_marks, f12_markLine, f12_markHole, f12_isOver) dX12_mark_66 hpo hP hD hS
set_option maxHeartbeats 4000000 in
set_option maxRecDepth 100000 in
theorem k_X12_has (l : Launch) (D : va_G) (κ : Nat → ClassId) (β : Nat) (a12 : Nat) (r12 : Nat → Nat) (v12_keptMany : Int32) (v12_done : Int32) (v12_sheets : Int32) (v12_holes : Int32) (v12_worms : Int32) (v12_laidMany : Int32) (v12_wanted : Int32) (v12_orderMany : Int32) (v12_firstOrder : Int32) (v12_lines : Int32) (v12_marks : Int32) (v12_dots : Int32) (v12_madeIn : Int32) (v12_bound : Int32) (v12_places : Int32) (v12_maps : Int32) (v12_tapeMany : Int32) (v12_stories : Int32) (v12_base : Int32) (v12_at : Int32) (v12_ends : Int32) (v12_fault : Int32) (v12_opened : Int32) (v12_bodies : Int32) (v12_ran : Int32) (v12_ownKind : Int32) (v12_ownNumber : Int32) (f12_wormOf : Nat → Int32) (f12_lineInk : Nat → Int32) (f12_markLine : Nat → Int32) (f12_markHole : Nat → Int32) (f12_isOver : Nat → Int32) (sz : Nat) (p1 : Int32) (p2 : Int32) (p3 : Int32) (p4 : Int32) (i1 : Rg 0 40 v12_keptMany) (i2 : Rg 0 40 v12_done) (i3 : Rg 0 8 v12_sheets) (i4 : Rg 0 40 v12_holes) (i5 : Rg 0 40 v12_worms) (i6 : Rg 0 8 v12_laidMany) (i7 : Rg 0 8 v12_wanted) (i8 : Rg 0 20 v12_lines) (i9 : Rg 0 60 v12_marks) (i10 : Rg 0 40 v12_dots) (i11 : Rg 0 20 v12_places) (i12 : Rg 0 8 v12_maps) (i13 : Rg 0 120 v12_tapeMany) (i14 : Rg 0 6 v12_stories) (i15 : Rg 0 50 v12_bodies) (i16 : Rg 0 1000 v12_ran) (hf12_markLine : ∀ j : Nat, 0 ≤ (f12_markLine j).toInt ∧ (f12_markLine j).toInt ≤ 19) (hf12_markHole : ∀ j : Nat, 0 ≤ (f12_markHole j).toInt ∧ (f12_markHole j).toInt ≤ 39) (i17 : v12_done.toInt ≤ v12_keptMany.toInt) : Met l yX12_has wsX12_has ({ frames := 0, cells := 0, slots := 0, locals := 0 } : Room) (PcK D κ β [O12 a12 r12 v12_keptMany v12_done v12_sheets v12_holes v12_worms v12_laidMany v12_wanted v12_orderMany v12_firstOrder v12_lines v12_marks v12_dots v12_madeIn v12_bound v12_places v12_maps v12_tapeMany v12_stories v12_base v12_at v12_ends v12_fault v12_opened v12_bodies v12_ran v12_ownKind v12_ownNumber, (cI κ (r12 11) 40 f12_wormOf), (cI κ (r12 22) 20 f12_lineInk), (cI κ (r12 24) 60 f12_markLine), (cI κ (r12 25) 60 f12_markHole), (cZ κ (r12 26) 60 f12_isOver)] sz [.ref a12, .int p1, .int p2, .int p3, .int p4]) (QiK D (fun (r : Int32) (u : Unit) => r.toInt = 0 ∨ r.toInt = 1) (fun (u : Unit) => [O12 a12 r12 v12_keptMany v12_done v12_sheets v12_holes v12_worms v12_laidMany v12_wanted v12_orderMany v12_firstOrder v12_lines v12_marks v12_dots v12_madeIn v12_bound v12_places v12_maps v12_tapeMany v12_stories v12_base v12_at v12_ends v12_fault v12_opened v12_bodies v12_ran v12_ownKind v12_ownNumber, (cI κ (r12 11) 40 f12_wormOf), (cI κ (r12 22) 20 f12_lineInk), (cI κ (r12 24) 60 f12_markLine), (cI κ (r12 25) 60 f12_markHole), (cZ κ (r12 26) 60 f12_isOver)]) [O12 a12 r12 v12_keptMany v12_done v12_sheets v12_holes v12_worms v12_laidMany v12_wanted v12_orderMany v12_firstOrder v12_lines v12_marks v12_dots v12_madeIn v12_bound v12_places v12_maps v12_tapeMany v12_stories v12_base v12_at v12_ends v12_fault v12_opened v12_bodies v12_ran v12_ownKind v12_ownNumber, (cI κ (r12 11) 40 f12_wormOf), (cI κ (r12 22) 20 f12_lineInk), (cI κ (r12 24) 60 f12_markLine), (cI κ (r12 25) 60 f12_markHole), (cZ κ (r12 26) 60 f12_isOver)] sz) 0 0 (va_A [O12 a12 r12 v12_keptMany v12_done v12_sheets v12_holes v12_worms v12_laidMany v12_wanted v12_orderMany v12_firstOrder v12_lines v12_marks v12_dots v12_madeIn v12_bound v12_places v12_maps v12_tapeMany v12_stories v12_base v12_at v12_ends v12_fault v12_opened v12_bodies v12_ran v12_ownKind v12_ownNumber, (cI κ (r12 11) 40 f12_wormOf), (cI κ (r12 22) 20 f12_lineInk), (cI κ (r12 24) 60 f12_markLine), (cI κ (r12 25) 60 f12_markHole), (cZ κ (r12 26) 60 f12_isOver)] sz) := by
  refine ofK_z (cc := cX12_has) (maxL := 7) (own := RX12) (by decide) rfl rfl (Nat.le_of_ble_eq_true rfl) ?_
  intro p e s m args below meth c Q A ls hsz hx hb hml hts hown hK hA hAB hP hD hl ret
  have hS : va_S A s.heap s.heap [] := va_S.rf
  have hl : lv_has ls 7 [(0, .ref a12), (1, .int p1), (2, .int p2), (3, .int p3), (4, .int p4)] := hl
  have w0 := hts (.fieldLink RX12 203 "OlderSkinModel" "marks" "I") (List.mem_of_getElem? (i := 1) rfl)
  have w1 := (fun w h => List.mem_cons_of_mem _ (List.mem_append_right _ h) : ∀ w ∈ u_ws RX12 TX12 63, w ∈ wsX12_has)
  have w2 := hts (.fieldLink RX12 31 "OlderSkinModel" "wormOf" "[I") (List.mem_of_getElem? (i := 2) rfl)
  have w3 := hts (.fieldLink RX12 52 "OlderSkinModel" "markHole" "[I") (List.mem_of_getElem? (i := 3) rfl)
  have w4 := hts (.fieldLink RX12 55 "OlderSkinModel" "isOver" "[Z") (List.mem_of_getElem? (i := 4) rfl)
  have w5 := hts (.fieldLink RX12 49 "OlderSkinModel" "markLine" "[I") (List.mem_of_getElem? (i := 6) rfl)
  have w6 := hts (.fieldLink RX12 46 "OlderSkinModel" "lineInk" "[I") (List.mem_of_getElem? (i := 5) rfl)
  have l0 : (0 : Int32).toInt = 0 := by decide
  have l1 : (1 : Int32).toInt = 1 := by decide
  have i9 : 0 ≤ v12_marks.toInt ∧ v12_marks.toInt ≤ 60 := i9
  refine lv_iconst (v := 0) hx hb dX12_has_0 (by decide) ?_
  refine lv_istore (lv' := [(5, .int 0), (0, .ref a12), (1, .int p1), (2, .int p2), (3, .int p3), (4, .int p4)]) hx hb dX12_has_1 hl (by decide) rfl (fun ls hl => ?_)
  have lp3 : ∀ (n3 : Nat) (k1 : Int32), (0 ≤ k1.toInt) → (v12_marks.toInt - k1.toInt).toNat < n3 → ∀ (H : Heap) (locs : List Loc), va_P D vwCl [O12 a12 r12 v12_keptMany v12_done v12_sheets v12_holes v12_worms v12_laidMany v12_wanted v12_orderMany v12_firstOrder v12_lines v12_marks v12_dots v12_madeIn v12_bound v12_places v12_maps v12_tapeMany v12_stories v12_base v12_at v12_ends v12_fault v12_opened v12_bodies v12_ran v12_ownKind v12_ownNumber, (cI κ (r12 11) 40 f12_wormOf), (cI κ (r12 22) 20 f12_lineInk), (cI κ (r12 24) 60 f12_markLine), (cI κ (r12 25) 60 f12_markHole), (cZ κ (r12 26) 60 f12_isOver)] H → va_D A [O12 a12 r12 v12_keptMany v12_done v12_sheets v12_holes v12_worms v12_laidMany v12_wanted v12_orderMany v12_firstOrder v12_lines v12_marks v12_dots v12_madeIn v12_bound v12_places v12_maps v12_tapeMany v12_stories v12_base v12_at v12_ends v12_fault v12_opened v12_bodies v12_ran v12_ownKind v12_ownNumber, (cI κ (r12 11) 40 f12_wormOf), (cI κ (r12 22) 20 f12_lineInk), (cI κ (r12 24) 60 f12_markLine), (cI κ (r12 25) 60 f12_markHole), (cZ κ (r12 26) 60 f12_isOver)] → va_S A s.heap H locs → ∀ ls : Array Slot, lv_has ls 7 [(5, .int k1), (0, .ref a12), (1, .int p1), (2, .int p2), (3, .int p3), (4, .int p4)] → W p l e ({ frames := 0, cells := 0, slots := 0, locals := 0 } : Room) s m args below meth c H locs 0 0 Q (F0 m 3 ls []) := by
    intro n3
    induction n3 with
    | zero =>
      intro k1 h2 m3
      exact absurd m3 (Nat.not_lt_zero _)
    | succ n3 ih3 =>
      intro k1 h2 m3 H locs hP hD hS ls hl
      refine lv_iload hx hb dX12_has_3 (lv_at hl 0 rfl) ?_
      refine lv_aload_n hx hb dX12_has_5 rfl (lv_at hl 1 rfl) ?_
      refine va_get (D := D) (ci := 12) (v := .int v12_marks) (C := RX12) (T := TX12) (N := 63) hx hb hts w1 hown hK.1 hP 0 rfl rfl 23 (by decide) w0 (fun _ h9 => h9) rfl dX12_has_6 ?_
      refine lv_icmp_ge (tgt := 94) hx hb dX12_has_9 (by decide) (fun c4 => ?_) (fun c4 => ?_)
      · have c4 := ci_le c4
        refine lv_iconst (v := 0) hx hb dX12_has_94 (by decide) ?_
        have hpo : (0 : Int32).toInt = 0 ∨ (0 : Int32).toInt = 1 := (by omega)
        exact ret _ _ _ _ 0 () dX12_has_95 (by omega) hpo hP hD hS
      have c4 := ci_nle c4
      refine lv_aload_n hx hb dX12_has_12 rfl (lv_at hl 1 rfl) ?_
      refine va_get (D := D) (ci := 12) (v := .ref (r12 11)) (C := RX12) (T := TX12) (N := 63) hx hb hts w1 hown hK.1 hP 0 rfl rfl 11 (by decide) w2 (fun _ h9 => h9) rfl dX12_has_13 ?_
      refine lv_aload_n hx hb dX12_has_16 rfl (lv_at hl 1 rfl) ?_
      refine va_get (D := D) (ci := 12) (v := .ref (r12 25)) (C := RX12) (T := TX12) (N := 63) hx hb hts w1 hown hK.1 hP 0 rfl rfl 25 (by decide) w3 (fun _ h9 => h9) rfl dX12_has_17 ?_
      refine lv_iload hx hb dX12_has_20 (lv_at hl 0 rfl) ?_
      refine va_iald hx hb hK.1 hP 4 1 rfl rfl (i := k1) (ix (by omega) (by omega)) dX12_has_22 ?_
      refine lv_topi (fun x5 e6 => ?_)
      have h7 : 0 ≤ x5.toInt ∧ x5.toInt ≤ 39 := by rw [e6]; exact hf12_markHole _
      refine va_iald hx hb hK.1 hP 1 1 rfl rfl (i := x5) (ix (by omega) (by omega)) dX12_has_23 ?_
      refine lv_topi (fun x8 e9 => ?_)
      refine lv_iload_n hx hb dX12_has_24 rfl (lv_at hl 2 rfl) ?_
      refine lv_icmp_ne (tgt := 78) hx hb dX12_has_25 (by decide) (fun c10 => ?_) (fun c10 => ?_)
      · have c10 := ci_ne c10
        refine lv_iconst (v := 0) hx hb dX12_has_78 (by decide) ?_
        refine lv_istore (lv' := [(6, .int 0), (5, .int k1), (0, .ref a12), (1, .int p1), (2, .int p2), (3, .int p3), (4, .int p4)]) hx hb dX12_has_79 hl (by decide) rfl (fun ls hl => ?_)
        refine lv_iload hx hb dX12_has_81 (lv_at hl 0 rfl) ?_
        refine lv_if_eq (tgt := 88) hx hb dX12_has_83 (by decide) (fun c11 => ?_) (fun c11 => ?_)
        · have c11 := ci_eq c11
          obtain ⟨x12, e13⟩ : ∃ y : Int32, y = k1 + 1 := ⟨_, rfl⟩
          refine lv_iinc (v := x12) (lv' := [(5, .int x12), (6, .int 0), (0, .ref a12), (1, .int p1), (2, .int p2), (3, .int p3), (4, .int p4)]) hx hb dX12_has_88 hl (k := 1) rfl (by rw [e13]; rfl) (by decide) rfl (fun ls hl => ?_)
          try have h14 : x12.toInt = k1.toInt + (1 : Int32).toInt := ci_add e13 (by omega) (by omega)
          refine lv_goto (tgt := 3) hx hb dX12_has_91 (by decide) ?_
          exact ih3 x12 (by omega) (by omega) _ _ hP hD hS _ (lv_sub hl [0, 2, 3, 4, 5, 6] rfl)
        have c11 := ci_ne c11
        exfalso
        omega
      have c10 := ci_eq c10
      refine lv_aload_n hx hb dX12_has_28 rfl (lv_at hl 1 rfl) ?_
      refine va_get (D := D) (ci := 12) (v := .ref (r12 26)) (C := RX12) (T := TX12) (N := 63) hx hb hts w1 hown hK.1 hP 0 rfl rfl 26 (by decide) w4 (fun _ h9 => h9) rfl dX12_has_29 ?_
      refine lv_iload hx hb dX12_has_32 (lv_at hl 0 rfl) ?_
      refine va_zald hx hb hK.1 hP 5 3 rfl rfl (i := k1) (ix (by omega) (by omega)) dX12_has_34 ?_
      refine lv_topi (fun x15 e16 => ?_)
      refine lv_iload hx hb dX12_has_35 (lv_at hl 5 rfl) ?_
      refine lv_icmp_ne (tgt := 78) hx hb dX12_has_37 (by decide) (fun c17 => ?_) (fun c17 => ?_)
      · have c17 := ci_ne c17
        refine lv_iconst (v := 0) hx hb dX12_has_78 (by decide) ?_
        refine lv_istore (lv' := [(6, .int 0), (5, .int k1), (0, .ref a12), (1, .int p1), (2, .int p2), (3, .int p3), (4, .int p4)]) hx hb dX12_has_79 hl (by decide) rfl (fun ls hl => ?_)
        refine lv_iload hx hb dX12_has_81 (lv_at hl 0 rfl) ?_
        refine lv_if_eq (tgt := 88) hx hb dX12_has_83 (by decide) (fun c18 => ?_) (fun c18 => ?_)
        · have c18 := ci_eq c18
          obtain ⟨x19, e20⟩ : ∃ y : Int32, y = k1 + 1 := ⟨_, rfl⟩
          refine lv_iinc (v := x19) (lv' := [(5, .int x19), (6, .int 0), (0, .ref a12), (1, .int p1), (2, .int p2), (3, .int p3), (4, .int p4)]) hx hb dX12_has_88 hl (k := 1) rfl (by rw [e20]; rfl) (by decide) rfl (fun ls hl => ?_)
          try have h21 : x19.toInt = k1.toInt + (1 : Int32).toInt := ci_add e20 (by omega) (by omega)
          refine lv_goto (tgt := 3) hx hb dX12_has_91 (by decide) ?_
          exact ih3 x19 (by omega) (by omega) _ _ hP hD hS _ (lv_sub hl [0, 2, 3, 4, 5, 6] rfl)
        have c18 := ci_ne c18
        exfalso
        omega
      have c17 := ci_eq c17
      refine lv_iload_n hx hb dX12_has_40 rfl (lv_at hl 4 rfl) ?_
      refine lv_if_ge (tgt := 63) hx hb dX12_has_41 (by decide) (fun c22 => ?_) (fun c22 => ?_)
      · have c22 := ci_le c22
        refine lv_aload_n hx hb dX12_has_63 rfl (lv_at hl 1 rfl) ?_
        refine va_get (D := D) (ci := 12) (v := .ref (r12 24)) (C := RX12) (T := TX12) (N := 63) hx hb hts w1 hown hK.1 hP 0 rfl rfl 24 (by decide) w5 (fun _ h9 => h9) rfl dX12_has_64 ?_
        refine lv_iload hx hb dX12_has_67 (lv_at hl 0 rfl) ?_
        refine va_iald hx hb hK.1 hP 3 1 rfl rfl (i := k1) (ix (by omega) (by omega)) dX12_has_69 ?_
        refine lv_topi (fun x23 e24 => ?_)
        have h25 : 0 ≤ x23.toInt ∧ x23.toInt ≤ 19 := by rw [e24]; exact hf12_markLine _
        refine lv_iload_n hx hb dX12_has_70 rfl (lv_at hl 4 rfl) ?_
        refine lv_icmp_ne (tgt := 78) hx hb dX12_has_71 (by decide) (fun c26 => ?_) (fun c26 => ?_)
        · have c26 := ci_ne c26
          refine lv_iconst (v := 0) hx hb dX12_has_78 (by decide) ?_
          refine lv_istore (lv' := [(6, .int 0), (5, .int k1), (0, .ref a12), (1, .int p1), (2, .int p2), (3, .int p3), (4, .int p4)]) hx hb dX12_has_79 hl (by decide) rfl (fun ls hl => ?_)
          refine lv_iload hx hb dX12_has_81 (lv_at hl 0 rfl) ?_
          refine lv_if_eq (tgt := 88) hx hb dX12_has_83 (by decide) (fun c27 => ?_) (fun c27 => ?_)
          · have c27 := ci_eq c27
            obtain ⟨x28, e29⟩ : ∃ y : Int32, y = k1 + 1 := ⟨_, rfl⟩
            refine lv_iinc (v := x28) (lv' := [(5, .int x28), (6, .int 0), (0, .ref a12), (1, .int p1), (2, .int p2), (3, .int p3), (4, .int p4)]) hx hb dX12_has_88 hl (k := 1) rfl (by rw [e29]; rfl) (by decide) rfl (fun ls hl => ?_)
            try have h30 : x28.toInt = k1.toInt + (1 : Int32).toInt := ci_add e29 (by omega) (by omega)
            refine lv_goto (tgt := 3) hx hb dX12_has_91 (by decide) ?_
            exact ih3 x28 (by omega) (by omega) _ _ hP hD hS _ (lv_sub hl [0, 2, 3, 4, 5, 6] rfl)
          have c27 := ci_ne c27
          exfalso
          omega
        have c26 := ci_eq c26
        refine lv_iconst (v := 1) hx hb dX12_has_74 (by decide) ?_
        refine lv_goto (tgt := 79) hx hb dX12_has_75 (by decide) ?_
        refine lv_istore (lv' := [(6, .int 1), (5, .int k1), (0, .ref a12), (1, .int p1), (2, .int p2), (3, .int p3), (4, .int p4)]) hx hb dX12_has_79 hl (by decide) rfl (fun ls hl => ?_)
        refine lv_iload hx hb dX12_has_81 (lv_at hl 0 rfl) ?_
        refine lv_if_eq (tgt := 88) hx hb dX12_has_83 (by decide) (fun c31 => ?_) (fun c31 => ?_)
        · have c31 := ci_eq c31
          exfalso
          omega
        have c31 := ci_ne c31
        refine lv_iconst (v := 1) hx hb dX12_has_86 (by decide) ?_
        have hpo : (1 : Int32).toInt = 0 ∨ (1 : Int32).toInt = 1 := (by omega)
        exact ret _ _ _ _ 1 () dX12_has_87 (by omega) hpo hP hD hS
      have c22 := ci_nle c22
      refine lv_aload_n hx hb dX12_has_44 rfl (lv_at hl 1 rfl) ?_
      refine va_get (D := D) (ci := 12) (v := .ref (r12 22)) (C := RX12) (T := TX12) (N := 63) hx hb hts w1 hown hK.1 hP 0 rfl rfl 22 (by decide) w6 (fun _ h9 => h9) rfl dX12_has_45 ?_
      refine lv_aload_n hx hb dX12_has_48 rfl (lv_at hl 1 rfl) ?_
      refine va_get (D := D) (ci := 12) (v := .ref (r12 24)) (C := RX12) (T := TX12) (N := 63) hx hb hts w1 hown hK.1 hP 0 rfl rfl 24 (by decide) w5 (fun _ h9 => h9) rfl dX12_has_49 ?_
      refine lv_iload hx hb dX12_has_52 (lv_at hl 0 rfl) ?_
      refine va_iald hx hb hK.1 hP 3 1 rfl rfl (i := k1) (ix (by omega) (by omega)) dX12_has_54 ?_
      refine lv_topi (fun x32 e33 => ?_)
      have h34 : 0 ≤ x32.toInt ∧ x32.toInt ≤ 19 := by rw [e33]; exact hf12_markLine _
      refine va_iald hx hb hK.1 hP 2 1 rfl rfl (i := x32) (ix (by omega) (by omega)) dX12_has_55 ?_
      refine lv_topi (fun x35 e36 => ?_)
      refine lv_iload_n hx hb dX12_has_56 rfl (lv_at hl 3 rfl) ?_
      refine lv_icmp_ne (tgt := 78) hx hb dX12_has_57 (by decide) (fun c37 => ?_) (fun c37 => ?_)
      · have c37 := ci_ne c37
        refine lv_iconst (v := 0) hx hb dX12_has_78 (by decide) ?_
        refine lv_istore (lv' := [(6, .int 0), (5, .int k1), (0, .ref a12), (1, .int p1), (2, .int p2), (3, .int p3), (4, .int p4)]) hx hb dX12_has_79 hl (by decide) rfl (fun ls hl => ?_)
        refine lv_iload hx hb dX12_has_81 (lv_at hl 0 rfl) ?_
        refine lv_if_eq (tgt := 88) hx hb dX12_has_83 (by decide) (fun c38 => ?_) (fun c38 => ?_)
        · have c38 := ci_eq c38
          obtain ⟨x39, e40⟩ : ∃ y : Int32, y = k1 + 1 := ⟨_, rfl⟩
          refine lv_iinc (v := x39) (lv' := [(5, .int x39), (6, .int 0), (0, .ref a12), (1, .int p1), (2, .int p2), (3, .int p3), (4, .int p4)]) hx hb dX12_has_88 hl (k := 1) rfl (by rw [e40]; rfl) (by decide) rfl (fun ls hl => ?_)
          try have h41 : x39.toInt = k1.toInt + (1 : Int32).toInt := ci_add e40 (by omega) (by omega)
          refine lv_goto (tgt := 3) hx hb dX12_has_91 (by decide) ?_
          exact ih3 x39 (by omega) (by omega) _ _ hP hD hS _ (lv_sub hl [0, 2, 3, 4, 5, 6] rfl)
        have c38 := ci_ne c38
        exfalso
        omega
      have c37 := ci_eq c37
      refine lv_goto (tgt := 74) hx hb dX12_has_60 (by decide) ?_
      refine lv_iconst (v := 1) hx hb dX12_has_74 (by decide) ?_
      refine lv_goto (tgt := 79) hx hb dX12_has_75 (by decide) ?_
      refine lv_istore (lv' := [(6, .int 1), (5, .int k1), (0, .ref a12), (1, .int p1), (2, .int p2), (3, .int p3), (4, .int p4)]) hx hb dX12_has_79 hl (by decide) rfl (fun ls hl => ?_)
      refine lv_iload hx hb dX12_has_81 (lv_at hl 0 rfl) ?_
      refine lv_if_eq (tgt := 88) hx hb dX12_has_83 (by decide) (fun c42 => ?_) (fun c42 => ?_)
      · have c42 := ci_eq c42
        exfalso
        omega
      have c42 := ci_ne c42
      refine lv_iconst (v := 1) hx hb dX12_has_86 (by decide) ?_
      have hpo : (1 : Int32).toInt = 0 ∨ (1 : Int32).toInt = 1 := (by omega)
      exact ret _ _ _ _ 1 () dX12_has_87 (by omega) hpo hP hD hS
  exact lp3 ((v12_marks.toInt - (0 : Int32).toInt).toNat + 1) 0 (by omega) (by omega) _ _ hP hD hS _ hl
set_option maxHeartbeats 4000000 in
set_option maxRecDepth 100000 in
theorem k_X12_fight (l : Launch) (D : va_G) (κ : Nat → ClassId) (β : Nat) (a12 : Nat) (r12 : Nat → Nat) (v12_keptMany : Int32) (v12_done : Int32) (v12_sheets : Int32) (v12_holes : Int32) (v12_worms : Int32) (v12_laidMany : Int32) (v12_wanted : Int32) (v12_orderMany : Int32) (v12_firstOrder : Int32) (v12_lines : Int32) (v12_marks : Int32) (v12_dots : Int32) (v12_madeIn : Int32) (v12_bound : Int32) (v12_places : Int32) (v12_maps : Int32) (v12_tapeMany : Int32) (v12_stories : Int32) (v12_base : Int32) (v12_at : Int32) (v12_ends : Int32) (v12_fault : Int32) (v12_opened : Int32) (v12_bodies : Int32) (v12_ran : Int32) (v12_ownKind : Int32) (v12_ownNumber : Int32) (f12_sheetOf : Nat → Int32) (f12_placeOf : Nat → Int32) (f12_sorted : Nat → Int32) (f12_wormOf : Nat → Int32) (f12_wormSheets : Nat → Int32) (f12_lineInk : Nat → Int32) (f12_markLine : Nat → Int32) (f12_markHole : Nat → Int32) (f12_isOver : Nat → Int32) (sz : Nat) (p1 : Int32) (p2 : Int32) (i1 : Rg 0 40 v12_keptMany) (i2 : Rg 0 40 v12_done) (i3 : Rg 0 8 v12_sheets) (i4 : Rg 0 40 v12_holes) (i5 : Rg 0 40 v12_worms) (i6 : Rg 0 8 v12_laidMany) (i7 : Rg 0 8 v12_wanted) (i8 : Rg 0 20 v12_lines) (i9 : Rg 0 60 v12_marks) (i10 : Rg 0 40 v12_dots) (i11 : Rg 0 20 v12_places) (i12 : Rg 0 8 v12_maps) (i13 : Rg 0 120 v12_tapeMany) (i14 : Rg 0 6 v12_stories) (i15 : Rg 0 50 v12_bodies) (i16 : Rg 0 1000 v12_ran) (hf12_sheetOf : ∀ j : Nat, 0 ≤ (f12_sheetOf j).toInt ∧ (f12_sheetOf j).toInt ≤ 7) (hf12_placeOf : ∀ j : Nat, 0 ≤ (f12_placeOf j).toInt ∧ (f12_placeOf j).toInt ≤ 999) (hf12_sorted : ∀ j : Nat, 0 ≤ (f12_sorted j).toInt ∧ (f12_sorted j).toInt ≤ 39) (hf12_markLine : ∀ j : Nat, 0 ≤ (f12_markLine j).toInt ∧ (f12_markLine j).toInt ≤ 19) (hf12_markHole : ∀ j : Nat, 0 ≤ (f12_markHole j).toInt ∧ (f12_markHole j).toInt ≤ 39) (i17 : v12_done.toInt ≤ v12_keptMany.toInt) : Met l yX12_fight wsX12_fight ({ frames := 2, cells := 0, slots := 0, locals := 45 } : Room) (PcK D κ β [O12 a12 r12 v12_keptMany v12_done v12_sheets v12_holes v12_worms v12_laidMany v12_wanted v12_orderMany v12_firstOrder v12_lines v12_marks v12_dots v12_madeIn v12_bound v12_places v12_maps v12_tapeMany v12_stories v12_base v12_at v12_ends v12_fault v12_opened v12_bodies v12_ran v12_ownKind v12_ownNumber, (cI κ (r12 8) 40 f12_sheetOf), (cI κ (r12 9) 40 f12_placeOf), (cI κ (r12 10) 40 f12_sorted), (cI κ (r12 11) 40 f12_wormOf), (cI κ (r12 12) 40 f12_wormSheets), (cI κ (r12 22) 20 f12_lineInk), (cI κ (r12 24) 60 f12_markLine), (cI κ (r12 25) 60 f12_markHole), (cZ κ (r12 26) 60 f12_isOver)] sz [.ref a12, .int p1, .int p2]) (QiK D (fun (r : Int32) (u : Int32 × (Nat → Int32) × (Nat → Int32) × (Nat → Int32)) => (0 ≤ u.1.toInt ∧ u.1.toInt ≤ 40) ∧ (∀ j : Nat, 0 ≤ (u.2.1 j).toInt ∧ (u.2.1 j).toInt ≤ 39)) (fun (u : Int32 × (Nat → Int32) × (Nat → Int32) × (Nat → Int32)) => [O12 a12 r12 v12_keptMany v12_done v12_sheets v12_holes u.1 v12_laidMany v12_wanted v12_orderMany v12_firstOrder v12_lines v12_marks v12_dots v12_madeIn v12_bound v12_places v12_maps v12_tapeMany v12_stories v12_base v12_at v12_ends v12_fault v12_opened v12_bodies v12_ran v12_ownKind v12_ownNumber, (cI κ (r12 8) 40 f12_sheetOf), (cI κ (r12 9) 40 f12_placeOf), (cI κ (r12 10) 40 u.2.1), (cI κ (r12 11) 40 u.2.2.1), (cI κ (r12 12) 40 u.2.2.2), (cI κ (r12 22) 20 f12_lineInk), (cI κ (r12 24) 60 f12_markLine), (cI κ (r12 25) 60 f12_markHole), (cZ κ (r12 26) 60 f12_isOver)]) [O12 a12 r12 v12_keptMany v12_done v12_sheets v12_holes v12_worms v12_laidMany v12_wanted v12_orderMany v12_firstOrder v12_lines v12_marks v12_dots v12_madeIn v12_bound v12_places v12_maps v12_tapeMany v12_stories v12_base v12_at v12_ends v12_fault v12_opened v12_bodies v12_ran v12_ownKind v12_ownNumber, (cI κ (r12 8) 40 f12_sheetOf), (cI κ (r12 9) 40 f12_placeOf), (cI κ (r12 10) 40 f12_sorted), (cI κ (r12 11) 40 f12_wormOf), (cI κ (r12 12) 40 f12_wormSheets), (cI κ (r12 22) 20 f12_lineInk), (cI κ (r12 24) 60 f12_markLine), (cI κ (r12 25) 60 f12_markHole), (cZ κ (r12 26) 60 f12_isOver)] sz) 0 0 (va_A [O12 a12 r12 v12_keptMany v12_done v12_sheets v12_holes v12_worms v12_laidMany v12_wanted v12_orderMany v12_firstOrder v12_lines v12_marks v12_dots v12_madeIn v12_bound v12_places v12_maps v12_tapeMany v12_stories v12_base v12_at v12_ends v12_fault v12_opened v12_bodies v12_ran v12_ownKind v12_ownNumber, (cI κ (r12 8) 40 f12_sheetOf), (cI κ (r12 9) 40 f12_placeOf), (cI κ (r12 10) 40 f12_sorted), (cI κ (r12 11) 40 f12_wormOf), (cI κ (r12 12) 40 f12_wormSheets), (cI κ (r12 22) 20 f12_lineInk), (cI κ (r12 24) 60 f12_markLine), (cI κ (r12 25) 60 f12_markHole), (cZ κ (r12 26) 60 f12_isOver)] sz) := by
  refine ofK_i (cc := cX12_fight) (maxL := 5) (own := RX12) (by decide) rfl rfl (Nat.le_of_ble_eq_true rfl) ?_
  intro p e s m args below meth c Q A ls hsz hx hb hml hts hown hK hA hAB hP hD hl ret
  have hS : va_S A s.heap s.heap [] := va_S.rf
  have hl : lv_has ls 5 [(0, .ref a12), (1, .int p1), (2, .int p2)] := hl
  have w0 := hts (.fieldLink RX12 200 "OlderSkinModel" "lines" "I") (List.mem_of_getElem? (i := 1) rfl)
  have w1 := (fun w h => List.mem_cons_of_mem _ (List.mem_append_right _ h) : ∀ w ∈ u_ws RX12 TX12 63, w ∈ wsX12_fight)
  have w2 := hts (.fieldLink RX12 160 "OlderSkinModel" "worms" "I") (List.mem_of_getElem? (i := 2) rfl)
  have w3 := hts (.fieldLink RX12 46 "OlderSkinModel" "lineInk" "[I") (List.mem_of_getElem? (i := 3) rfl)
  have l0 : (0 : Int32).toInt = 0 := by decide
  have l1 : ((-1) : Int32).toInt = -1 := by decide
  have l2 : (0 : Int64).toInt = 0 := by decide
  have l3 : (1 : Int64).toInt = 1 := by decide
  have l4 : ((-2) : Int32).toInt = -2 := by decide
  have l5 : (1 : Int32).toInt = 1 := by decide
  have i4 : 0 ≤ v12_holes.toInt ∧ v12_holes.toInt ≤ 40 := i4
  have i5 : 0 ≤ v12_worms.toInt ∧ v12_worms.toInt ≤ 40 := i5
  have i8 : 0 ≤ v12_lines.toInt ∧ v12_lines.toInt ≤ 20 := i8
  refine lv_iload_n hx hb dX12_fight_0 rfl (lv_at hl 1 rfl) ?_
  refine kcm_i hA hAB hP hD hS [false, false, false, false, false, false, false, false, false, false] rfl (fun _ => rfl) (fun hPc hDc => va_runS (As := [.int p1]) (rest := []) ⟨hx, hb, hml, hown, hts⟩ (k_X12_isSlack l D κ β s.heap.size p1) (va_cwS 1 hts gX12_fight_X12_isSlack rfl rfl rfl (by decide +kernel) ⟨Nat.le_of_ble_eq_true rfl, Nat.le_of_ble_eq_true rfl⟩) (pk_S hK hS hAB hPc hDc) rfl rfl hl.1 rfl (lv_room (Nat.le_of_ble_eq_true rfl)) dX12_fight_1 ⟨Nat.le_of_ble_eq_true rfl, Nat.le_of_ble_eq_true rfl⟩) (fun x1 u2 H locs hw hPD hS => ?_)
  have h3 : (x1.toInt = 1 ∧ 0 ≤ p1.toInt ∧ p1.toInt ≤ 99) ∨ (x1.toInt = 0 ∧ (p1.toInt < 0 ∨ 99 < p1.toInt)) := hw
  obtain ⟨hP, hD⟩ : PD D A [O12 a12 r12 v12_keptMany v12_done v12_sheets v12_holes v12_worms v12_laidMany v12_wanted v12_orderMany v12_firstOrder v12_lines v12_marks v12_dots v12_madeIn v12_bound v12_places v12_maps v12_tapeMany v12_stories v12_base v12_at v12_ends v12_fault v12_opened v12_bodies v12_ran v12_ownKind v12_ownNumber, (cI κ (r12 8) 40 f12_sheetOf), (cI κ (r12 9) 40 f12_placeOf), (cI κ (r12 10) 40 f12_sorted), (cI κ (r12 11) 40 f12_wormOf), (cI κ (r12 12) 40 f12_wormSheets), (cI κ (r12 22) 20 f12_lineInk), (cI κ (r12 24) 60 f12_markLine), (cI κ (r12 25) 60 f12_markHole), (cZ κ (r12 26) 60 f12_isOver)] H := hPD
  refine lv_if_eq (tgt := 17) hx hb dX12_fight_4 (by decide) (fun c4 => ?_) (fun c4 => ?_)
  · have c4 := ci_eq c4
    refine lv_iconst (v := (-1)) hx hb dX12_fight_17 (by decide) ?_
    have hpo : (0 ≤ v12_worms.toInt ∧ v12_worms.toInt ≤ 40) ∧ (∀ j : Nat, 0 ≤ (f12_sorted j).toInt ∧ (f12_sorted j).toInt ≤ 39) := ⟨i5, hf12_sorted⟩
    exact ret _ _ _ _ (-1) (v12_worms, f12_sorted, f12_wormOf, f12_wormSheets) dX12_fight_18 hpo hP hD hS
  have c4 := ci_ne c4
  refine lv_iload_n hx hb dX12_fight_7 rfl (lv_at hl 2 rfl) ?_
  refine lv_i2l hx hb dX12_fight_8 rfl ?_
  refine lv_topl (fun x5 e6 => ?_)
  have h7 : x5.toInt = p2.toInt := cl_i2l e6
  refine lv_lconst (v := (0 : Int64)) hx hb dX12_fight_9 (by decide) ?_
  refine lv_lconst (v := (1 : Int64)) hx hb dX12_fight_10 (by decide) ?_
  refine kcm_i hA hAB hP hD hS [false, false, false, false, false, false, false, false, false, false] rfl (fun _ => rfl) (fun hPc hDc => va_runS (As := [.long x5, .long (0 : Int64), .long (1 : Int64)]) (rest := []) ⟨hx, hb, hml, hown, hts⟩ (k_X12_within l D κ β H.size x5 (0 : Int64) (1 : Int64)) (va_cwS 3 hts gX12_fight_X12_within rfl rfl rfl (by decide +kernel) ⟨Nat.le_of_ble_eq_true rfl, Nat.le_of_ble_eq_true rfl⟩) (pk_S hK hS hAB hPc hDc) rfl rfl hl.1 rfl (lv_room (Nat.le_of_ble_eq_true rfl)) dX12_fight_11 ⟨Nat.le_of_ble_eq_true rfl, Nat.le_of_ble_eq_true rfl⟩) (fun x8 u9 H locs hw hPD hS => ?_)
  have h10 : (x8.toInt = 1 ∧ (0 : Int64).toInt ≤ x5.toInt ∧ x5.toInt ≤ (1 : Int64).toInt) ∨ (x8.toInt = 0 ∧ (x5.toInt < (0 : Int64).toInt ∨ (1 : Int64).toInt < x5.toInt)) := hw
  obtain ⟨hP, hD⟩ : PD D A [O12 a12 r12 v12_keptMany v12_done v12_sheets v12_holes v12_worms v12_laidMany v12_wanted v12_orderMany v12_firstOrder v12_lines v12_marks v12_dots v12_madeIn v12_bound v12_places v12_maps v12_tapeMany v12_stories v12_base v12_at v12_ends v12_fault v12_opened v12_bodies v12_ran v12_ownKind v12_ownNumber, (cI κ (r12 8) 40 f12_sheetOf), (cI κ (r12 9) 40 f12_placeOf), (cI κ (r12 10) 40 f12_sorted), (cI κ (r12 11) 40 f12_wormOf), (cI κ (r12 12) 40 f12_wormSheets), (cI κ (r12 22) 20 f12_lineInk), (cI κ (r12 24) 60 f12_markLine), (cI κ (r12 25) 60 f12_markHole), (cZ κ (r12 26) 60 f12_isOver)] H := hPD
  refine lv_if_ne (tgt := 19) hx hb dX12_fight_14 (by decide) (fun c11 => ?_) (fun c11 => ?_)
  · have c11 := ci_ne c11
    refine lv_aload_n hx hb dX12_fight_19 rfl (lv_at hl 0 rfl) ?_
    refine lv_iload_n hx hb dX12_fight_20 rfl (lv_at hl 1 rfl) ?_
    refine lv_iconst (v := (-1)) hx hb dX12_fight_21 (by decide) ?_
    refine kcm_v hA hAB hP hD hS [true, true, true, true, true, true, false, false, false, false] rfl (fun _ => rfl) (fun hPc hDc => va_runV (As := [.int p1, .int (-1)]) (rest := []) ⟨hx, hb, hml, hown, hts⟩ (k_X12_findWorms l D κ β a12 r12 v12_keptMany v12_done v12_sheets v12_holes v12_worms v12_laidMany v12_wanted v12_orderMany v12_firstOrder v12_lines v12_marks v12_dots v12_madeIn v12_bound v12_places v12_maps v12_tapeMany v12_stories v12_base v12_at v12_ends v12_fault v12_opened v12_bodies v12_ran v12_ownKind v12_ownNumber f12_sheetOf f12_placeOf f12_sorted f12_wormOf f12_wormSheets H.size p1 (-1) i1 i2 i3 i4 i5 i6 i7 i8 i9 i10 i11 i12 i13 i14 i15 i16 hf12_sheetOf hf12_placeOf hf12_sorted i17) (cwV 2 hts gX12_fight_X12_findWorms rfl rfl rfl (by decide +kernel) ⟨Nat.le_of_ble_eq_true rfl, Nat.le_of_ble_eq_true rfl⟩) (pk_V hK hS hAB hPc hDc 0 (ci := 12) rfl rfl rfl) rfl rfl hl.1 rfl (lv_room (Nat.le_of_ble_eq_true rfl)) dX12_fight_22 ⟨Nat.le_of_ble_eq_true rfl, Nat.le_of_ble_eq_true rfl⟩) (fun u16 H locs hw hPD hS => ?_)
    obtain ⟨x12, g13, g14, g15⟩ := u16
    obtain ⟨h17, h18⟩ : (0 ≤ x12.toInt ∧ x12.toInt ≤ 40) ∧ (∀ j : Nat, 0 ≤ (g13 j).toInt ∧ (g13 j).toInt ≤ 39) := hw
    obtain ⟨hP, hD⟩ : PD D A [O12 a12 r12 v12_keptMany v12_done v12_sheets v12_holes x12 v12_laidMany v12_wanted v12_orderMany v12_firstOrder v12_lines v12_marks v12_dots v12_madeIn v12_bound v12_places v12_maps v12_tapeMany v12_stories v12_base v12_at v12_ends v12_fault v12_opened v12_bodies v12_ran v12_ownKind v12_ownNumber, (cI κ (r12 8) 40 f12_sheetOf), (cI κ (r12 9) 40 f12_placeOf), (cI κ (r12 10) 40 g13), (cI κ (r12 11) 40 g14), (cI κ (r12 12) 40 g15), (cI κ (r12 22) 20 f12_lineInk), (cI κ (r12 24) 60 f12_markLine), (cI κ (r12 25) 60 f12_markHole), (cZ κ (r12 26) 60 f12_isOver)] H := hPD
    refine lv_iconst (v := 0) hx hb dX12_fight_25 (by decide) ?_
    refine lv_istore_n (lv' := [(3, .int 0), (0, .ref a12), (1, .int p1), (2, .int p2)]) hx hb dX12_fight_26 rfl hl (by decide) rfl (fun ls hl => ?_)
    have lp27 : ∀ (n27 : Nat) (k19 : Int32), (0 ≤ k19.toInt) → (v12_lines.toInt - k19.toInt).toNat < n27 → ∀ (H : Heap) (locs : List Loc), va_P D vwCl [O12 a12 r12 v12_keptMany v12_done v12_sheets v12_holes x12 v12_laidMany v12_wanted v12_orderMany v12_firstOrder v12_lines v12_marks v12_dots v12_madeIn v12_bound v12_places v12_maps v12_tapeMany v12_stories v12_base v12_at v12_ends v12_fault v12_opened v12_bodies v12_ran v12_ownKind v12_ownNumber, (cI κ (r12 8) 40 f12_sheetOf), (cI κ (r12 9) 40 f12_placeOf), (cI κ (r12 10) 40 g13), (cI κ (r12 11) 40 g14), (cI κ (r12 12) 40 g15), (cI κ (r12 22) 20 f12_lineInk), (cI κ (r12 24) 60 f12_markLine), (cI κ (r12 25) 60 f12_markHole), (cZ κ (r12 26) 60 f12_isOver)] H → va_D A [O12 a12 r12 v12_keptMany v12_done v12_sheets v12_holes x12 v12_laidMany v12_wanted v12_orderMany v12_firstOrder v12_lines v12_marks v12_dots v12_madeIn v12_bound v12_places v12_maps v12_tapeMany v12_stories v12_base v12_at v12_ends v12_fault v12_opened v12_bodies v12_ran v12_ownKind v12_ownNumber, (cI κ (r12 8) 40 f12_sheetOf), (cI κ (r12 9) 40 f12_placeOf), (cI κ (r12 10) 40 g13), (cI κ (r12 11) 40 g14), (cI κ (r12 12) 40 g15), (cI κ (r12 22) 20 f12_lineInk), (cI κ (r12 24) 60 f12_markLine), (cI κ (r12 25) 60 f12_markHole), (cZ κ (r12 26) 60 f12_isOver)] → va_S A s.heap H locs → ∀ ls : Array Slot, lv_has ls 5 [(3, .int k19), (0, .ref a12), (1, .int p1), (2, .int p2)] → W p l e ({ frames := 2, cells := 0, slots := 0, locals := 45 } : Room) s m args below meth c H locs 0 0 Q (F0 m 27 ls []) := by
      intro n27
      induction n27 with
      | zero =>
        intro k19 h20 m21
        exact absurd m21 (Nat.not_lt_zero _)
      | succ n27 ih27 =>
        intro k19 h20 m21 H locs hP hD hS ls hl
        refine lv_iload_n hx hb dX12_fight_27 rfl (lv_at hl 0 rfl) ?_
        refine lv_aload_n hx hb dX12_fight_28 rfl (lv_at hl 1 rfl) ?_
        refine va_get (D := D) (ci := 12) (v := .int v12_lines) (C := RX12) (T := TX12) (N := 63) hx hb hts w1 hown hK.1 hP 0 rfl rfl 20 (by decide) w0 (fun _ h9 => h9) rfl dX12_fight_29 ?_
        refine lv_icmp_ge (tgt := 99) hx hb dX12_fight_32 (by decide) (fun c22 => ?_) (fun c22 => ?_)
        · have c22 := ci_le c22
          refine lv_bipush (v := (-2)) hx hb dX12_fight_99 (by decide) ?_
          have hpo : (0 ≤ x12.toInt ∧ x12.toInt ≤ 40) ∧ (∀ j : Nat, 0 ≤ (g13 j).toInt ∧ (g13 j).toInt ≤ 39) := ⟨h17, h18⟩
          exact ret _ _ _ _ (-2) (x12, g13, g14, g15) dX12_fight_101 hpo hP hD hS
        have c22 := ci_nle c22
        refine lv_iconst (v := 0) hx hb dX12_fight_35 (by decide) ?_
        refine lv_istore (lv' := [(4, .int 0), (3, .int k19), (0, .ref a12), (1, .int p1), (2, .int p2)]) hx hb dX12_fight_36 hl (by decide) rfl (fun ls hl => ?_)
        have lp38 : ∀ (n38 : Nat) (k23 : Int32), (0 ≤ k23.toInt) → (x12.toInt - k23.toInt).toNat < n38 → ∀ (H : Heap) (locs : List Loc), va_P D vwCl [O12 a12 r12 v12_keptMany v12_done v12_sheets v12_holes x12 v12_laidMany v12_wanted v12_orderMany v12_firstOrder v12_lines v12_marks v12_dots v12_madeIn v12_bound v12_places v12_maps v12_tapeMany v12_stories v12_base v12_at v12_ends v12_fault v12_opened v12_bodies v12_ran v12_ownKind v12_ownNumber, (cI κ (r12 8) 40 f12_sheetOf), (cI κ (r12 9) 40 f12_placeOf), (cI κ (r12 10) 40 g13), (cI κ (r12 11) 40 g14), (cI κ (r12 12) 40 g15), (cI κ (r12 22) 20 f12_lineInk), (cI κ (r12 24) 60 f12_markLine), (cI κ (r12 25) 60 f12_markHole), (cZ κ (r12 26) 60 f12_isOver)] H → va_D A [O12 a12 r12 v12_keptMany v12_done v12_sheets v12_holes x12 v12_laidMany v12_wanted v12_orderMany v12_firstOrder v12_lines v12_marks v12_dots v12_madeIn v12_bound v12_places v12_maps v12_tapeMany v12_stories v12_base v12_at v12_ends v12_fault v12_opened v12_bodies v12_ran v12_ownKind v12_ownNumber, (cI κ (r12 8) 40 f12_sheetOf), (cI κ (r12 9) 40 f12_placeOf), (cI κ (r12 10) 40 g13), (cI κ (r12 11) 40 g14), (cI κ (r12 12) 40 g15), (cI κ (r12 22) 20 f12_lineInk), (cI κ (r12 24) 60 f12_markLine), (cI κ (r12 25) 60 f12_markHole), (cZ κ (r12 26) 60 f12_isOver)] → va_S A s.heap H locs → ∀ ls : Array Slot, lv_has ls 5 [(4, .int k23), (3, .int k19), (0, .ref a12), (1, .int p1), (2, .int p2)] → W p l e ({ frames := 2, cells := 0, slots := 0, locals := 45 } : Room) s m args below meth c H locs 0 0 Q (F0 m 38 ls []) := by
          intro n38
          induction n38 with
          | zero =>
            intro k23 h24 m25
            exact absurd m25 (Nat.not_lt_zero _)
          | succ n38 ih38 =>
            intro k23 h24 m25 H locs hP hD hS ls hl
            refine lv_iload hx hb dX12_fight_38 (lv_at hl 0 rfl) ?_
            refine lv_aload_n hx hb dX12_fight_40 rfl (lv_at hl 2 rfl) ?_
            refine va_get (D := D) (ci := 12) (v := .int x12) (C := RX12) (T := TX12) (N := 63) hx hb hts w1 hown hK.1 hP 0 rfl rfl 13 (by decide) w2 (fun _ h9 => h9) rfl dX12_fight_41 ?_
            refine lv_icmp_ge (tgt := 93) hx hb dX12_fight_44 (by decide) (fun c26 => ?_) (fun c26 => ?_)
            · have c26 := ci_le c26
              obtain ⟨x27, e28⟩ : ∃ y : Int32, y = k19 + 1 := ⟨_, rfl⟩
              refine lv_iinc (v := x27) (lv' := [(3, .int x27), (4, .int k23), (0, .ref a12), (1, .int p1), (2, .int p2)]) hx hb dX12_fight_93 hl (k := 1) rfl (by rw [e28]; rfl) (by decide) rfl (fun ls hl => ?_)
              try have h29 : x27.toInt = k19.toInt + (1 : Int32).toInt := ci_add e28 (by omega) (by omega)
              refine lv_goto (tgt := 27) hx hb dX12_fight_96 (by decide) ?_
              exact ih27 x27 (by omega) (by omega) _ _ hP hD hS _ (lv_sub hl [0, 2, 3, 4] rfl)
            have c26 := ci_nle c26
            refine lv_aload_n hx hb dX12_fight_47 rfl (lv_at hl 2 rfl) ?_
            refine lv_iload hx hb dX12_fight_48 (lv_at hl 0 rfl) ?_
            refine lv_iconst (v := (-1)) hx hb dX12_fight_50 (by decide) ?_
            refine lv_iload_n hx hb dX12_fight_51 rfl (lv_at hl 1 rfl) ?_
            refine lv_iconst (v := 1) hx hb dX12_fight_52 (by decide) ?_
            refine kcm_i hA hAB hP hD hS [true, false, false, false, true, false, true, true, true, true] rfl (fun _ => rfl) (fun hPc hDc => va_runV (As := [.int k23, .int (-1), .int k19, .int 1]) (rest := []) ⟨hx, hb, hml, hown, hts⟩ (k_X12_has l D κ β a12 r12 v12_keptMany v12_done v12_sheets v12_holes x12 v12_laidMany v12_wanted v12_orderMany v12_firstOrder v12_lines v12_marks v12_dots v12_madeIn v12_bound v12_places v12_maps v12_tapeMany v12_stories v12_base v12_at v12_ends v12_fault v12_opened v12_bodies v12_ran v12_ownKind v12_ownNumber g14 f12_lineInk f12_markLine f12_markHole f12_isOver H.size k23 (-1) k19 1 i1 i2 i3 i4 h17 i6 i7 i8 i9 i10 i11 i12 i13 i14 i15 i16 hf12_markLine hf12_markHole i17) (cwV 4 hts gX12_fight_X12_has rfl rfl rfl (by decide +kernel) ⟨Nat.le_of_ble_eq_true rfl, Nat.le_of_ble_eq_true rfl⟩) (pk_V hK hS hAB hPc hDc 0 (ci := 12) rfl rfl rfl) rfl rfl hl.1 rfl (lv_room (Nat.le_of_ble_eq_true rfl)) dX12_fight_53 ⟨Nat.le_of_ble_eq_true rfl, Nat.le_of_ble_eq_true rfl⟩) (fun x30 u31 H locs hw hPD hS => ?_)
            have h32 : x30.toInt = 0 ∨ x30.toInt = 1 := hw
            obtain ⟨hP, hD⟩ : PD D A [O12 a12 r12 v12_keptMany v12_done v12_sheets v12_holes x12 v12_laidMany v12_wanted v12_orderMany v12_firstOrder v12_lines v12_marks v12_dots v12_madeIn v12_bound v12_places v12_maps v12_tapeMany v12_stories v12_base v12_at v12_ends v12_fault v12_opened v12_bodies v12_ran v12_ownKind v12_ownNumber, (cI κ (r12 8) 40 f12_sheetOf), (cI κ (r12 9) 40 f12_placeOf), (cI κ (r12 10) 40 g13), (cI κ (r12 11) 40 g14), (cI κ (r12 12) 40 g15), (cI κ (r12 22) 20 f12_lineInk), (cI κ (r12 24) 60 f12_markLine), (cI κ (r12 25) 60 f12_markHole), (cZ κ (r12 26) 60 f12_isOver)] H := hPD
            refine lv_if_eq (tgt := 87) hx hb dX12_fight_56 (by decide) (fun c33 => ?_) (fun c33 => ?_)
            · have c33 := ci_eq c33
              obtain ⟨x34, e35⟩ : ∃ y : Int32, y = k23 + 1 := ⟨_, rfl⟩
              refine lv_iinc (v := x34) (lv' := [(4, .int x34), (3, .int k19), (0, .ref a12), (1, .int p1), (2, .int p2)]) hx hb dX12_fight_87 hl (k := 0) rfl (by rw [e35]; rfl) (by decide) rfl (fun ls hl => ?_)
              try have h36 : x34.toInt = k23.toInt + (1 : Int32).toInt := ci_add e35 (by omega) (by omega)
              refine lv_goto (tgt := 38) hx hb dX12_fight_90 (by decide) ?_
              exact ih38 x34 (by omega) (by omega) _ _ hP hD hS _ hl
            have c33 := ci_ne c33
            refine lv_aload_n hx hb dX12_fight_59 rfl (lv_at hl 2 rfl) ?_
            refine lv_iload hx hb dX12_fight_60 (lv_at hl 0 rfl) ?_
            refine lv_aload_n hx hb dX12_fight_62 rfl (lv_at hl 2 rfl) ?_
            refine va_get (D := D) (ci := 12) (v := .ref (r12 22)) (C := RX12) (T := TX12) (N := 63) hx hb hts w1 hown hK.1 hP 0 rfl rfl 22 (by decide) w3 (fun _ h9 => h9) rfl dX12_fight_63 ?_
            refine lv_iload_n hx hb dX12_fight_66 rfl (lv_at hl 1 rfl) ?_
            refine va_iald hx hb hK.1 hP 6 1 rfl rfl (i := k19) (ix (by omega) (by omega)) dX12_fight_67 ?_
            refine lv_topi (fun x37 e38 => ?_)
            refine lv_iconst (v := (-1)) hx hb dX12_fight_68 (by decide) ?_
            refine lv_iconst (v := 0) hx hb dX12_fight_69 (by decide) ?_
            refine kcm_i hA hAB hP hD hS [true, false, false, false, true, false, true, true, true, true] rfl (fun _ => rfl) (fun hPc hDc => va_runV (As := [.int k23, .int x37, .int (-1), .int 0]) (rest := []) ⟨hx, hb, hml, hown, hts⟩ (k_X12_has l D κ β a12 r12 v12_keptMany v12_done v12_sheets v12_holes x12 v12_laidMany v12_wanted v12_orderMany v12_firstOrder v12_lines v12_marks v12_dots v12_madeIn v12_bound v12_places v12_maps v12_tapeMany v12_stories v12_base v12_at v12_ends v12_fault v12_opened v12_bodies v12_ran v12_ownKind v12_ownNumber g14 f12_lineInk f12_markLine f12_markHole f12_isOver H.size k23 x37 (-1) 0 i1 i2 i3 i4 h17 i6 i7 i8 i9 i10 i11 i12 i13 i14 i15 i16 hf12_markLine hf12_markHole i17) (cwV 4 hts gX12_fight_X12_has rfl rfl rfl (by decide +kernel) ⟨Nat.le_of_ble_eq_true rfl, Nat.le_of_ble_eq_true rfl⟩) (pk_V hK hS hAB hPc hDc 0 (ci := 12) rfl rfl rfl) rfl rfl hl.1 rfl (lv_room (Nat.le_of_ble_eq_true rfl)) dX12_fight_70 ⟨Nat.le_of_ble_eq_true rfl, Nat.le_of_ble_eq_true rfl⟩) (fun x39 u40 H locs hw hPD hS => ?_)
            have h41 : x39.toInt = 0 ∨ x39.toInt = 1 := hw
            obtain ⟨hP, hD⟩ : PD D A [O12 a12 r12 v12_keptMany v12_done v12_sheets v12_holes x12 v12_laidMany v12_wanted v12_orderMany v12_firstOrder v12_lines v12_marks v12_dots v12_madeIn v12_bound v12_places v12_maps v12_tapeMany v12_stories v12_base v12_at v12_ends v12_fault v12_opened v12_bodies v12_ran v12_ownKind v12_ownNumber, (cI κ (r12 8) 40 f12_sheetOf), (cI κ (r12 9) 40 f12_placeOf), (cI κ (r12 10) 40 g13), (cI κ (r12 11) 40 g14), (cI κ (r12 12) 40 g15), (cI κ (r12 22) 20 f12_lineInk), (cI κ (r12 24) 60 f12_markLine), (cI κ (r12 25) 60 f12_markHole), (cZ κ (r12 26) 60 f12_isOver)] H := hPD
            refine lv_if_eq (tgt := 87) hx hb dX12_fight_73 (by decide) (fun c42 => ?_) (fun c42 => ?_)
            · have c42 := ci_eq c42
              obtain ⟨x43, e44⟩ : ∃ y : Int32, y = k23 + 1 := ⟨_, rfl⟩
              refine lv_iinc (v := x43) (lv' := [(4, .int x43), (3, .int k19), (0, .ref a12), (1, .int p1), (2, .int p2)]) hx hb dX12_fight_87 hl (k := 0) rfl (by rw [e44]; rfl) (by decide) rfl (fun ls hl => ?_)
              try have h45 : x43.toInt = k23.toInt + (1 : Int32).toInt := ci_add e44 (by omega) (by omega)
              refine lv_goto (tgt := 38) hx hb dX12_fight_90 (by decide) ?_
              exact ih38 x43 (by omega) (by omega) _ _ hP hD hS _ hl
            have c42 := ci_ne c42
            refine lv_iload_n hx hb dX12_fight_76 rfl (lv_at hl 4 rfl) ?_
            refine lv_if_ne (tgt := 84) hx hb dX12_fight_77 (by decide) (fun c46 => ?_) (fun c46 => ?_)
            · have c46 := ci_ne c46
              refine lv_iload hx hb dX12_fight_84 (lv_at hl 0 rfl) ?_
              have hpo : (0 ≤ x12.toInt ∧ x12.toInt ≤ 40) ∧ (∀ j : Nat, 0 ≤ (g13 j).toInt ∧ (g13 j).toInt ≤ 39) := ⟨h17, h18⟩
              exact ret _ _ _ _ k23 (x12, g13, g14, g15) dX12_fight_86 hpo hP hD hS
            have c46 := ci_eq c46
            refine lv_iload_n hx hb dX12_fight_80 rfl (lv_at hl 1 rfl) ?_
            refine lv_goto (tgt := 86) hx hb dX12_fight_81 (by decide) ?_
            have hpo : (0 ≤ x12.toInt ∧ x12.toInt ≤ 40) ∧ (∀ j : Nat, 0 ≤ (g13 j).toInt ∧ (g13 j).toInt ≤ 39) := ⟨h17, h18⟩
            exact ret _ _ _ _ k19 (x12, g13, g14, g15) dX12_fight_86 hpo hP hD hS
        exact lp38 ((x12.toInt - (0 : Int32).toInt).toNat + 1) 0 (by omega) (by omega) _ _ hP hD hS _ hl
    exact lp27 ((v12_lines.toInt - (0 : Int32).toInt).toNat + 1) 0 (by omega) (by omega) _ _ hP hD hS _ hl
  have c11 := ci_eq c11
  refine lv_iconst (v := (-1)) hx hb dX12_fight_17 (by decide) ?_
  have hpo : (0 ≤ v12_worms.toInt ∧ v12_worms.toInt ≤ 40) ∧ (∀ j : Nat, 0 ≤ (f12_sorted j).toInt ∧ (f12_sorted j).toInt ≤ 39) := ⟨i5, hf12_sorted⟩
  exact ret _ _ _ _ (-1) (v12_worms, f12_sorted, f12_wormOf, f12_wormSheets) dX12_fight_18 hpo hP hD hS
set_option maxHeartbeats 4000000 in
set_option maxRecDepth 100000 in
theorem k_X12_cameFirst (l : Launch) (D : va_G) (κ : Nat → ClassId) (β : Nat) (a12 : Nat) (r12 : Nat → Nat) (v12_keptMany : Int32) (v12_done : Int32) (v12_sheets : Int32) (v12_holes : Int32) (v12_worms : Int32) (v12_laidMany : Int32) (v12_wanted : Int32) (v12_orderMany : Int32) (v12_firstOrder : Int32) (v12_lines : Int32) (v12_marks : Int32) (v12_dots : Int32) (v12_madeIn : Int32) (v12_bound : Int32) (v12_places : Int32) (v12_maps : Int32) (v12_tapeMany : Int32) (v12_stories : Int32) (v12_base : Int32) (v12_at : Int32) (v12_ends : Int32) (v12_fault : Int32) (v12_opened : Int32) (v12_bodies : Int32) (v12_ran : Int32) (v12_ownKind : Int32) (v12_ownNumber : Int32) (f12_wormOf : Nat → Int32) (f12_lineInk : Nat → Int32) (f12_markLine : Nat → Int32) (f12_markHole : Nat → Int32) (f12_isOver : Nat → Int32) (sz : Nat) (p1 : Int32) (p2 : Int32) (i1 : Rg 0 40 v12_keptMany) (i2 : Rg 0 40 v12_done) (i3 : Rg 0 8 v12_sheets) (i4 : Rg 0 40 v12_holes) (i5 : Rg 0 40 v12_worms) (i6 : Rg 0 8 v12_laidMany) (i7 : Rg 0 8 v12_wanted) (i8 : Rg 0 20 v12_lines) (i9 : Rg 0 60 v12_marks) (i10 : Rg 0 40 v12_dots) (i11 : Rg 0 20 v12_places) (i12 : Rg 0 8 v12_maps) (i13 : Rg 0 120 v12_tapeMany) (i14 : Rg 0 6 v12_stories) (i15 : Rg 0 50 v12_bodies) (i16 : Rg 0 1000 v12_ran) (hf12_markLine : ∀ j : Nat, 0 ≤ (f12_markLine j).toInt ∧ (f12_markLine j).toInt ≤ 19) (hf12_markHole : ∀ j : Nat, 0 ≤ (f12_markHole j).toInt ∧ (f12_markHole j).toInt ≤ 39) (i17 : v12_done.toInt ≤ v12_keptMany.toInt) : Met l yX12_cameFirst wsX12_cameFirst ({ frames := 1, cells := 0, slots := 0, locals := 26 } : Room) (PcK D κ β [O12 a12 r12 v12_keptMany v12_done v12_sheets v12_holes v12_worms v12_laidMany v12_wanted v12_orderMany v12_firstOrder v12_lines v12_marks v12_dots v12_madeIn v12_bound v12_places v12_maps v12_tapeMany v12_stories v12_base v12_at v12_ends v12_fault v12_opened v12_bodies v12_ran v12_ownKind v12_ownNumber, (cI κ (r12 11) 40 f12_wormOf), (cI κ (r12 22) 20 f12_lineInk), (cI κ (r12 24) 60 f12_markLine), (cI κ (r12 25) 60 f12_markHole), (cZ κ (r12 26) 60 f12_isOver)] sz [.ref a12, .int p1, .int p2]) (QiK D (fun (r : Int32) (u : Unit) => r.toInt = 0 ∨ r.toInt = 1) (fun (u : Unit) => [O12 a12 r12 v12_keptMany v12_done v12_sheets v12_holes v12_worms v12_laidMany v12_wanted v12_orderMany v12_firstOrder v12_lines v12_marks v12_dots v12_madeIn v12_bound v12_places v12_maps v12_tapeMany v12_stories v12_base v12_at v12_ends v12_fault v12_opened v12_bodies v12_ran v12_ownKind v12_ownNumber, (cI κ (r12 11) 40 f12_wormOf), (cI κ (r12 22) 20 f12_lineInk), (cI κ (r12 24) 60 f12_markLine), (cI κ (r12 25) 60 f12_markHole), (cZ κ (r12 26) 60 f12_isOver)]) [O12 a12 r12 v12_keptMany v12_done v12_sheets v12_holes v12_worms v12_laidMany v12_wanted v12_orderMany v12_firstOrder v12_lines v12_marks v12_dots v12_madeIn v12_bound v12_places v12_maps v12_tapeMany v12_stories v12_base v12_at v12_ends v12_fault v12_opened v12_bodies v12_ran v12_ownKind v12_ownNumber, (cI κ (r12 11) 40 f12_wormOf), (cI κ (r12 22) 20 f12_lineInk), (cI κ (r12 24) 60 f12_markLine), (cI κ (r12 25) 60 f12_markHole), (cZ κ (r12 26) 60 f12_isOver)] sz) 0 0 (va_A [O12 a12 r12 v12_keptMany v12_done v12_sheets v12_holes v12_worms v12_laidMany v12_wanted v12_orderMany v12_firstOrder v12_lines v12_marks v12_dots v12_madeIn v12_bound v12_places v12_maps v12_tapeMany v12_stories v12_base v12_at v12_ends v12_fault v12_opened v12_bodies v12_ran v12_ownKind v12_ownNumber, (cI κ (r12 11) 40 f12_wormOf), (cI κ (r12 22) 20 f12_lineInk), (cI κ (r12 24) 60 f12_markLine), (cI κ (r12 25) 60 f12_markHole), (cZ κ (r12 26) 60 f12_isOver)] sz) := by
  refine ofK_z (cc := cX12_cameFirst) (maxL := 4) (own := RX12) (by decide) rfl rfl (Nat.le_of_ble_eq_true rfl) ?_
  intro p e s m args below meth c Q A ls hsz hx hb hml hts hown hK hA hAB hP hD hl ret
  have hS : va_S A s.heap s.heap [] := va_S.rf
  have hl : lv_has ls 4 [(0, .ref a12), (1, .int p1), (2, .int p2)] := hl
  have w0 := hts (.fieldLink RX12 160 "OlderSkinModel" "worms" "I") (List.mem_of_getElem? (i := 1) rfl)
  have w1 := (fun w h => List.mem_cons_of_mem _ (List.mem_append_right _ h) : ∀ w ∈ u_ws RX12 TX12 63, w ∈ wsX12_cameFirst)
  have l0 : (0 : Int32).toInt = 0 := by decide
  have l1 : ((-1) : Int32).toInt = -1 := by decide
  have l2 : (1 : Int32).toInt = 1 := by decide
  have i5 : 0 ≤ v12_worms.toInt ∧ v12_worms.toInt ≤ 40 := i5
  refine lv_iconst (v := 0) hx hb dX12_cameFirst_0 (by decide) ?_
  refine lv_istore_n (lv' := [(3, .int 0), (0, .ref a12), (1, .int p1), (2, .int p2)]) hx hb dX12_cameFirst_1 rfl hl (by decide) rfl (fun ls hl => ?_)
  have lp2 : ∀ (n2 : Nat) (k1 : Int32), (0 ≤ k1.toInt) → (v12_worms.toInt - k1.toInt).toNat < n2 → ∀ (H : Heap) (locs : List Loc), va_P D vwCl [O12 a12 r12 v12_keptMany v12_done v12_sheets v12_holes v12_worms v12_laidMany v12_wanted v12_orderMany v12_firstOrder v12_lines v12_marks v12_dots v12_madeIn v12_bound v12_places v12_maps v12_tapeMany v12_stories v12_base v12_at v12_ends v12_fault v12_opened v12_bodies v12_ran v12_ownKind v12_ownNumber, (cI κ (r12 11) 40 f12_wormOf), (cI κ (r12 22) 20 f12_lineInk), (cI κ (r12 24) 60 f12_markLine), (cI κ (r12 25) 60 f12_markHole), (cZ κ (r12 26) 60 f12_isOver)] H → va_D A [O12 a12 r12 v12_keptMany v12_done v12_sheets v12_holes v12_worms v12_laidMany v12_wanted v12_orderMany v12_firstOrder v12_lines v12_marks v12_dots v12_madeIn v12_bound v12_places v12_maps v12_tapeMany v12_stories v12_base v12_at v12_ends v12_fault v12_opened v12_bodies v12_ran v12_ownKind v12_ownNumber, (cI κ (r12 11) 40 f12_wormOf), (cI κ (r12 22) 20 f12_lineInk), (cI κ (r12 24) 60 f12_markLine), (cI κ (r12 25) 60 f12_markHole), (cZ κ (r12 26) 60 f12_isOver)] → va_S A s.heap H locs → ∀ ls : Array Slot, lv_has ls 4 [(3, .int k1), (0, .ref a12), (1, .int p1), (2, .int p2)] → W p l e ({ frames := 1, cells := 0, slots := 0, locals := 26 } : Room) s m args below meth c H locs 0 0 Q (F0 m 2 ls []) := by
    intro n2
    induction n2 with
    | zero =>
      intro k1 h2 m3
      exact absurd m3 (Nat.not_lt_zero _)
    | succ n2 ih2 =>
      intro k1 h2 m3 H locs hP hD hS ls hl
      refine lv_iload_n hx hb dX12_cameFirst_2 rfl (lv_at hl 0 rfl) ?_
      refine lv_aload_n hx hb dX12_cameFirst_3 rfl (lv_at hl 1 rfl) ?_
      refine va_get (D := D) (ci := 12) (v := .int v12_worms) (C := RX12) (T := TX12) (N := 63) hx hb hts w1 hown hK.1 hP 0 rfl rfl 13 (by decide) w0 (fun _ h9 => h9) rfl dX12_cameFirst_4 ?_
      refine lv_icmp_ge (tgt := 40) hx hb dX12_cameFirst_7 (by decide) (fun c4 => ?_) (fun c4 => ?_)
      · have c4 := ci_le c4
        refine lv_iconst (v := 0) hx hb dX12_cameFirst_40 (by decide) ?_
        have hpo : (0 : Int32).toInt = 0 ∨ (0 : Int32).toInt = 1 := (by omega)
        exact ret _ _ _ _ 0 () dX12_cameFirst_41 (by omega) hpo hP hD hS
      have c4 := ci_nle c4
      refine lv_aload_n hx hb dX12_cameFirst_10 rfl (lv_at hl 1 rfl) ?_
      refine lv_iload_n hx hb dX12_cameFirst_11 rfl (lv_at hl 0 rfl) ?_
      refine lv_iload_n hx hb dX12_cameFirst_12 rfl (lv_at hl 2 rfl) ?_
      refine lv_iconst (v := (-1)) hx hb dX12_cameFirst_13 (by decide) ?_
      refine lv_iconst (v := 1) hx hb dX12_cameFirst_14 (by decide) ?_
      refine kcm_i hA hAB hP hD hS [true, true, true, true, true, true] rfl (fun _ => rfl) (fun hPc hDc => va_runV (As := [.int k1, .int p1, .int (-1), .int 1]) (rest := []) ⟨hx, hb, hml, hown, hts⟩ (k_X12_has l D κ β a12 r12 v12_keptMany v12_done v12_sheets v12_holes v12_worms v12_laidMany v12_wanted v12_orderMany v12_firstOrder v12_lines v12_marks v12_dots v12_madeIn v12_bound v12_places v12_maps v12_tapeMany v12_stories v12_base v12_at v12_ends v12_fault v12_opened v12_bodies v12_ran v12_ownKind v12_ownNumber f12_wormOf f12_lineInk f12_markLine f12_markHole f12_isOver H.size k1 p1 (-1) 1 i1 i2 i3 i4 i5 i6 i7 i8 i9 i10 i11 i12 i13 i14 i15 i16 hf12_markLine hf12_markHole i17) (cwV 4 hts gX12_cameFirst_X12_has rfl rfl rfl (by decide +kernel) ⟨Nat.le_of_ble_eq_true rfl, Nat.le_of_ble_eq_true rfl⟩) (pk_V hK hS hAB hPc hDc 0 (ci := 12) rfl rfl rfl) rfl rfl hl.1 rfl (lv_room (Nat.le_of_ble_eq_true rfl)) dX12_cameFirst_15 ⟨Nat.le_of_ble_eq_true rfl, Nat.le_of_ble_eq_true rfl⟩) (fun x5 u6 H locs hw hPD hS => ?_)
      have h7 : x5.toInt = 0 ∨ x5.toInt = 1 := hw
      obtain ⟨hP, hD⟩ : PD D A [O12 a12 r12 v12_keptMany v12_done v12_sheets v12_holes v12_worms v12_laidMany v12_wanted v12_orderMany v12_firstOrder v12_lines v12_marks v12_dots v12_madeIn v12_bound v12_places v12_maps v12_tapeMany v12_stories v12_base v12_at v12_ends v12_fault v12_opened v12_bodies v12_ran v12_ownKind v12_ownNumber, (cI κ (r12 11) 40 f12_wormOf), (cI κ (r12 22) 20 f12_lineInk), (cI κ (r12 24) 60 f12_markLine), (cI κ (r12 25) 60 f12_markHole), (cZ κ (r12 26) 60 f12_isOver)] H := hPD
      refine lv_if_eq (tgt := 34) hx hb dX12_cameFirst_18 (by decide) (fun c8 => ?_) (fun c8 => ?_)
      · have c8 := ci_eq c8
        obtain ⟨x9, e10⟩ : ∃ y : Int32, y = k1 + 1 := ⟨_, rfl⟩
        refine lv_iinc (v := x9) (lv' := [(3, .int x9), (0, .ref a12), (1, .int p1), (2, .int p2)]) hx hb dX12_cameFirst_34 hl (k := 0) rfl (by rw [e10]; rfl) (by decide) rfl (fun ls hl => ?_)
        try have h11 : x9.toInt = k1.toInt + (1 : Int32).toInt := ci_add e10 (by omega) (by omega)
        refine lv_goto (tgt := 2) hx hb dX12_cameFirst_37 (by decide) ?_
        exact ih2 x9 (by omega) (by omega) _ _ hP hD hS _ hl
      have c8 := ci_ne c8
      refine lv_aload_n hx hb dX12_cameFirst_21 rfl (lv_at hl 1 rfl) ?_
      refine lv_iload_n hx hb dX12_cameFirst_22 rfl (lv_at hl 0 rfl) ?_
      refine lv_iload_n hx hb dX12_cameFirst_23 rfl (lv_at hl 3 rfl) ?_
      refine lv_iconst (v := (-1)) hx hb dX12_cameFirst_24 (by decide) ?_
      refine lv_iconst (v := 0) hx hb dX12_cameFirst_25 (by decide) ?_
      refine kcm_i hA hAB hP hD hS [true, true, true, true, true, true] rfl (fun _ => rfl) (fun hPc hDc => va_runV (As := [.int k1, .int p2, .int (-1), .int 0]) (rest := []) ⟨hx, hb, hml, hown, hts⟩ (k_X12_has l D κ β a12 r12 v12_keptMany v12_done v12_sheets v12_holes v12_worms v12_laidMany v12_wanted v12_orderMany v12_firstOrder v12_lines v12_marks v12_dots v12_madeIn v12_bound v12_places v12_maps v12_tapeMany v12_stories v12_base v12_at v12_ends v12_fault v12_opened v12_bodies v12_ran v12_ownKind v12_ownNumber f12_wormOf f12_lineInk f12_markLine f12_markHole f12_isOver H.size k1 p2 (-1) 0 i1 i2 i3 i4 i5 i6 i7 i8 i9 i10 i11 i12 i13 i14 i15 i16 hf12_markLine hf12_markHole i17) (cwV 4 hts gX12_cameFirst_X12_has rfl rfl rfl (by decide +kernel) ⟨Nat.le_of_ble_eq_true rfl, Nat.le_of_ble_eq_true rfl⟩) (pk_V hK hS hAB hPc hDc 0 (ci := 12) rfl rfl rfl) rfl rfl hl.1 rfl (lv_room (Nat.le_of_ble_eq_true rfl)) dX12_cameFirst_26 ⟨Nat.le_of_ble_eq_true rfl, Nat.le_of_ble_eq_true rfl⟩) (fun x12 u13 H locs hw hPD hS => ?_)
      have h14 : x12.toInt = 0 ∨ x12.toInt = 1 := hw
      obtain ⟨hP, hD⟩ : PD D A [O12 a12 r12 v12_keptMany v12_done v12_sheets v12_holes v12_worms v12_laidMany v12_wanted v12_orderMany v12_firstOrder v12_lines v12_marks v12_dots v12_madeIn v12_bound v12_places v12_maps v12_tapeMany v12_stories v12_base v12_at v12_ends v12_fault v12_opened v12_bodies v12_ran v12_ownKind v12_ownNumber, (cI κ (r12 11) 40 f12_wormOf), (cI κ (r12 22) 20 f12_lineInk), (cI κ (r12 24) 60 f12_markLine), (cI κ (r12 25) 60 f12_markHole), (cZ κ (r12 26) 60 f12_isOver)] H := hPD
      refine lv_if_eq (tgt := 34) hx hb dX12_cameFirst_29 (by decide) (fun c15 => ?_) (fun c15 => ?_)
      · have c15 := ci_eq c15
        obtain ⟨x16, e17⟩ : ∃ y : Int32, y = k1 + 1 := ⟨_, rfl⟩
        refine lv_iinc (v := x16) (lv' := [(3, .int x16), (0, .ref a12), (1, .int p1), (2, .int p2)]) hx hb dX12_cameFirst_34 hl (k := 0) rfl (by rw [e17]; rfl) (by decide) rfl (fun ls hl => ?_)
        try have h18 : x16.toInt = k1.toInt + (1 : Int32).toInt := ci_add e17 (by omega) (by omega)
        refine lv_goto (tgt := 2) hx hb dX12_cameFirst_37 (by decide) ?_
        exact ih2 x16 (by omega) (by omega) _ _ hP hD hS _ hl
      have c15 := ci_ne c15
      refine lv_iconst (v := 1) hx hb dX12_cameFirst_32 (by decide) ?_
      have hpo : (1 : Int32).toInt = 0 ∨ (1 : Int32).toInt = 1 := (by omega)
      exact ret _ _ _ _ 1 () dX12_cameFirst_33 (by omega) hpo hP hD hS
  exact lp2 ((v12_worms.toInt - (0 : Int32).toInt).toNat + 1) 0 (by omega) (by omega) _ _ hP hD hS _ hl
set_option maxHeartbeats 4000000 in
set_option maxRecDepth 100000 in
theorem k_X12_firstInk (l : Launch) (D : va_G) (κ : Nat → ClassId) (β : Nat) (a12 : Nat) (r12 : Nat → Nat) (v12_keptMany : Int32) (v12_done : Int32) (v12_sheets : Int32) (v12_holes : Int32) (v12_worms : Int32) (v12_laidMany : Int32) (v12_wanted : Int32) (v12_orderMany : Int32) (v12_firstOrder : Int32) (v12_lines : Int32) (v12_marks : Int32) (v12_dots : Int32) (v12_madeIn : Int32) (v12_bound : Int32) (v12_places : Int32) (v12_maps : Int32) (v12_tapeMany : Int32) (v12_stories : Int32) (v12_base : Int32) (v12_at : Int32) (v12_ends : Int32) (v12_fault : Int32) (v12_opened : Int32) (v12_bodies : Int32) (v12_ran : Int32) (v12_ownKind : Int32) (v12_ownNumber : Int32) (f12_wormOf : Nat → Int32) (f12_lineInk : Nat → Int32) (f12_markLine : Nat → Int32) (f12_markHole : Nat → Int32) (f12_isOver : Nat → Int32) (sz : Nat) (i1 : Rg 0 40 v12_keptMany) (i2 : Rg 0 40 v12_done) (i3 : Rg 0 8 v12_sheets) (i4 : Rg 0 40 v12_holes) (i5 : Rg 0 40 v12_worms) (i6 : Rg 0 8 v12_laidMany) (i7 : Rg 0 8 v12_wanted) (i8 : Rg 0 20 v12_lines) (i9 : Rg 0 60 v12_marks) (i10 : Rg 0 40 v12_dots) (i11 : Rg 0 20 v12_places) (i12 : Rg 0 8 v12_maps) (i13 : Rg 0 120 v12_tapeMany) (i14 : Rg 0 6 v12_stories) (i15 : Rg 0 50 v12_bodies) (i16 : Rg 0 1000 v12_ran) (hf12_markLine : ∀ j : Nat, 0 ≤ (f12_markLine j).toInt ∧ (f12_markLine j).toInt ≤ 19) (hf12_markHole : ∀ j : Nat, 0 ≤ (f12_markHole j).toInt ∧ (f12_markHole j).toInt ≤ 39) (i17 : v12_done.toInt ≤ v12_keptMany.toInt) : Met l yX12_firstInk wsX12_firstInk ({ frames := 2, cells := 0, slots := 0, locals := 49 } : Room) (PcK D κ β [O12 a12 r12 v12_keptMany v12_done v12_sheets v12_holes v12_worms v12_laidMany v12_wanted v12_orderMany v12_firstOrder v12_lines v12_marks v12_dots v12_madeIn v12_bound v12_places v12_maps v12_tapeMany v12_stories v12_base v12_at v12_ends v12_fault v12_opened v12_bodies v12_ran v12_ownKind v12_ownNumber, (cI κ (r12 11) 40 f12_wormOf), (cI κ (r12 22) 20 f12_lineInk), (cI κ (r12 24) 60 f12_markLine), (cI κ (r12 25) 60 f12_markHole), (cZ κ (r12 26) 60 f12_isOver)] sz [.ref a12]) (QiK D (fun (r : Int32) (u : Unit) => True) (fun (u : Unit) => [O12 a12 r12 v12_keptMany v12_done v12_sheets v12_holes v12_worms v12_laidMany v12_wanted v12_orderMany v12_firstOrder v12_lines v12_marks v12_dots v12_madeIn v12_bound v12_places v12_maps v12_tapeMany v12_stories v12_base v12_at v12_ends v12_fault v12_opened v12_bodies v12_ran v12_ownKind v12_ownNumber, (cI κ (r12 11) 40 f12_wormOf), (cI κ (r12 22) 20 f12_lineInk), (cI κ (r12 24) 60 f12_markLine), (cI κ (r12 25) 60 f12_markHole), (cZ κ (r12 26) 60 f12_isOver)]) [O12 a12 r12 v12_keptMany v12_done v12_sheets v12_holes v12_worms v12_laidMany v12_wanted v12_orderMany v12_firstOrder v12_lines v12_marks v12_dots v12_madeIn v12_bound v12_places v12_maps v12_tapeMany v12_stories v12_base v12_at v12_ends v12_fault v12_opened v12_bodies v12_ran v12_ownKind v12_ownNumber, (cI κ (r12 11) 40 f12_wormOf), (cI κ (r12 22) 20 f12_lineInk), (cI κ (r12 24) 60 f12_markLine), (cI κ (r12 25) 60 f12_markHole), (cZ κ (r12 26) 60 f12_isOver)] sz) 0 0 (va_A [O12 a12 r12 v12_keptMany v12_done v12_sheets v12_holes v12_worms v12_laidMany v12_wanted v12_orderMany v12_firstOrder v12_lines v12_marks v12_dots v12_madeIn v12_bound v12_places v12_maps v12_tapeMany v12_stories v12_base v12_at v12_ends v12_fault v12_opened v12_bodies v12_ran v12_ownKind v12_ownNumber, (cI κ (r12 11) 40 f12_wormOf), (cI κ (r12 22) 20 f12_lineInk), (cI κ (r12 24) 60 f12_markLine), (cI κ (r12 25) 60 f12_markHole), (cZ κ (r12 26) 60 f12_isOver)] sz) := by
  refine ofK_i (cc := cX12_firstInk) (maxL := 4) (own := RX12) (by decide) rfl rfl (Nat.le_of_ble_eq_true rfl) ?_
  intro p e s m args below meth c Q A ls hsz hx hb hml hts hown hK hA hAB hP hD hl ret
  have hS : va_S A s.heap s.heap [] := va_S.rf
  have hl : lv_has ls 4 [(0, .ref a12)] := hl
  have w0 := hts (.fieldLink RX12 200 "OlderSkinModel" "lines" "I") (List.mem_of_getElem? (i := 1) rfl)
  have w1 := (fun w h => List.mem_cons_of_mem _ (List.mem_append_right _ h) : ∀ w ∈ u_ws RX12 TX12 63, w ∈ wsX12_firstInk)
  have w2 := hts (.fieldLink RX12 46 "OlderSkinModel" "lineInk" "[I") (List.mem_of_getElem? (i := 2) rfl)
  have l0 : (0 : Int32).toInt = 0 := by decide
  have l1 : (6 : Int32).toInt = 6 := by decide
  have l2 : ((-2) : Int32).toInt = -2 := by decide
  have l3 : (1 : Int32).toInt = 1 := by decide
  have i8 : 0 ≤ v12_lines.toInt ∧ v12_lines.toInt ≤ 20 := i8
  refine lv_iconst (v := 0) hx hb dX12_firstInk_0 (by decide) ?_
  refine lv_istore_n (lv' := [(1, .int 0), (0, .ref a12)]) hx hb dX12_firstInk_1 rfl hl (by decide) rfl (fun ls hl => ?_)
  have lp2 : ∀ (n2 : Nat) (k1 : Int32), (0 ≤ k1.toInt) → (6 - k1.toInt).toNat < n2 → ∀ (H : Heap) (locs : List Loc), va_P D vwCl [O12 a12 r12 v12_keptMany v12_done v12_sheets v12_holes v12_worms v12_laidMany v12_wanted v12_orderMany v12_firstOrder v12_lines v12_marks v12_dots v12_madeIn v12_bound v12_places v12_maps v12_tapeMany v12_stories v12_base v12_at v12_ends v12_fault v12_opened v12_bodies v12_ran v12_ownKind v12_ownNumber, (cI κ (r12 11) 40 f12_wormOf), (cI κ (r12 22) 20 f12_lineInk), (cI κ (r12 24) 60 f12_markLine), (cI κ (r12 25) 60 f12_markHole), (cZ κ (r12 26) 60 f12_isOver)] H → va_D A [O12 a12 r12 v12_keptMany v12_done v12_sheets v12_holes v12_worms v12_laidMany v12_wanted v12_orderMany v12_firstOrder v12_lines v12_marks v12_dots v12_madeIn v12_bound v12_places v12_maps v12_tapeMany v12_stories v12_base v12_at v12_ends v12_fault v12_opened v12_bodies v12_ran v12_ownKind v12_ownNumber, (cI κ (r12 11) 40 f12_wormOf), (cI κ (r12 22) 20 f12_lineInk), (cI κ (r12 24) 60 f12_markLine), (cI κ (r12 25) 60 f12_markHole), (cZ κ (r12 26) 60 f12_isOver)] → va_S A s.heap H locs → ∀ ls : Array Slot, lv_has ls 4 [(1, .int k1), (0, .ref a12)] → W p l e ({ frames := 2, cells := 0, slots := 0, locals := 49 } : Room) s m args below meth c H locs 0 0 Q (F0 m 2 ls []) := by
    intro n2
    induction n2 with
    | zero =>
      intro k1 h2 m3
      exact absurd m3 (Nat.not_lt_zero _)
    | succ n2 ih2 =>
      intro k1 h2 m3 H locs hP hD hS ls hl
      refine lv_iload_n hx hb dX12_firstInk_2 rfl (lv_at hl 0 rfl) ?_
      refine lv_bipush (v := 6) hx hb dX12_firstInk_3 (by decide) ?_
      refine lv_icmp_ge (tgt := 96) hx hb dX12_firstInk_5 (by decide) (fun c4 => ?_) (fun c4 => ?_)
      · have c4 := ci_le c4
        refine lv_bipush (v := (-2)) hx hb dX12_firstInk_96 (by decide) ?_
        exact ret _ _ _ _ (-2) () dX12_firstInk_98 trivial hP hD hS
      have c4 := ci_nle c4
      refine lv_iconst (v := 0) hx hb dX12_firstInk_8 (by decide) ?_
      refine lv_istore_n (lv' := [(2, .int 0), (1, .int k1), (0, .ref a12)]) hx hb dX12_firstInk_9 rfl hl (by decide) rfl (fun ls hl => ?_)
      refine lv_iconst (v := 0) hx hb dX12_firstInk_10 (by decide) ?_
      refine lv_istore_n (lv' := [(3, .int 0), (2, .int 0), (1, .int k1), (0, .ref a12)]) hx hb dX12_firstInk_11 rfl hl (by decide) rfl (fun ls hl => ?_)
      have lp12 : ∀ (n12 : Nat) (k5 : Int32) (k6 : Int32), (0 ≤ k5.toInt) → (v12_lines.toInt - k5.toInt).toNat < n12 → ∀ (H : Heap) (locs : List Loc), va_P D vwCl [O12 a12 r12 v12_keptMany v12_done v12_sheets v12_holes v12_worms v12_laidMany v12_wanted v12_orderMany v12_firstOrder v12_lines v12_marks v12_dots v12_madeIn v12_bound v12_places v12_maps v12_tapeMany v12_stories v12_base v12_at v12_ends v12_fault v12_opened v12_bodies v12_ran v12_ownKind v12_ownNumber, (cI κ (r12 11) 40 f12_wormOf), (cI κ (r12 22) 20 f12_lineInk), (cI κ (r12 24) 60 f12_markLine), (cI κ (r12 25) 60 f12_markHole), (cZ κ (r12 26) 60 f12_isOver)] H → va_D A [O12 a12 r12 v12_keptMany v12_done v12_sheets v12_holes v12_worms v12_laidMany v12_wanted v12_orderMany v12_firstOrder v12_lines v12_marks v12_dots v12_madeIn v12_bound v12_places v12_maps v12_tapeMany v12_stories v12_base v12_at v12_ends v12_fault v12_opened v12_bodies v12_ran v12_ownKind v12_ownNumber, (cI κ (r12 11) 40 f12_wormOf), (cI κ (r12 22) 20 f12_lineInk), (cI κ (r12 24) 60 f12_markLine), (cI κ (r12 25) 60 f12_markHole), (cZ κ (r12 26) 60 f12_isOver)] → va_S A s.heap H locs → ∀ ls : Array Slot, lv_has ls 4 [(3, .int k5), (2, .int k6), (1, .int k1), (0, .ref a12)] → W p l e ({ frames := 2, cells := 0, slots := 0, locals := 49 } : Room) s m args below meth c H locs 0 0 Q (F0 m 12 ls []) := by
        intro n12
        induction n12 with
        | zero =>
          intro k5 k6 h7 m8
          exact absurd m8 (Nat.not_lt_zero _)
        | succ n12 ih12 =>
          intro k5 k6 h7 m8 H locs hP hD hS ls hl
          refine lv_iload_n hx hb dX12_firstInk_12 rfl (lv_at hl 0 rfl) ?_
          refine lv_aload_n hx hb dX12_firstInk_13 rfl (lv_at hl 3 rfl) ?_
          refine va_get (D := D) (ci := 12) (v := .int v12_lines) (C := RX12) (T := TX12) (N := 63) hx hb hts w1 hown hK.1 hP 0 rfl rfl 20 (by decide) w0 (fun _ h9 => h9) rfl dX12_firstInk_14 ?_
          refine lv_icmp_ge (tgt := 46) hx hb dX12_firstInk_17 (by decide) (fun c9 => ?_) (fun c9 => ?_)
          · have c9 := ci_le c9
            refine lv_iconst (v := 0) hx hb dX12_firstInk_46 (by decide) ?_
            refine lv_istore_n (lv' := [(3, .int 0), (2, .int k6), (1, .int k1), (0, .ref a12)]) hx hb dX12_firstInk_47 rfl hl (by decide) rfl (fun ls hl => ?_)
            have lp48 : ∀ (n48 : Nat) (k10 : Int32) (k11 : Int32), (0 ≤ k10.toInt) → (6 - k10.toInt).toNat < n48 → ∀ (H : Heap) (locs : List Loc), va_P D vwCl [O12 a12 r12 v12_keptMany v12_done v12_sheets v12_holes v12_worms v12_laidMany v12_wanted v12_orderMany v12_firstOrder v12_lines v12_marks v12_dots v12_madeIn v12_bound v12_places v12_maps v12_tapeMany v12_stories v12_base v12_at v12_ends v12_fault v12_opened v12_bodies v12_ran v12_ownKind v12_ownNumber, (cI κ (r12 11) 40 f12_wormOf), (cI κ (r12 22) 20 f12_lineInk), (cI κ (r12 24) 60 f12_markLine), (cI κ (r12 25) 60 f12_markHole), (cZ κ (r12 26) 60 f12_isOver)] H → va_D A [O12 a12 r12 v12_keptMany v12_done v12_sheets v12_holes v12_worms v12_laidMany v12_wanted v12_orderMany v12_firstOrder v12_lines v12_marks v12_dots v12_madeIn v12_bound v12_places v12_maps v12_tapeMany v12_stories v12_base v12_at v12_ends v12_fault v12_opened v12_bodies v12_ran v12_ownKind v12_ownNumber, (cI κ (r12 11) 40 f12_wormOf), (cI κ (r12 22) 20 f12_lineInk), (cI κ (r12 24) 60 f12_markLine), (cI κ (r12 25) 60 f12_markHole), (cZ κ (r12 26) 60 f12_isOver)] → va_S A s.heap H locs → ∀ ls : Array Slot, lv_has ls 4 [(3, .int k10), (2, .int k11), (1, .int k1), (0, .ref a12)] → W p l e ({ frames := 2, cells := 0, slots := 0, locals := 49 } : Room) s m args below meth c H locs 0 0 Q (F0 m 48 ls []) := by
              intro n48
              induction n48 with
              | zero =>
                intro k10 k11 h12 m13
                exact absurd m13 (Nat.not_lt_zero _)
              | succ n48 ih48 =>
                intro k10 k11 h12 m13 H locs hP hD hS ls hl
                refine lv_iload_n hx hb dX12_firstInk_48 rfl (lv_at hl 0 rfl) ?_
                refine lv_bipush (v := 6) hx hb dX12_firstInk_49 (by decide) ?_
                refine lv_icmp_ge (tgt := 84) hx hb dX12_firstInk_51 (by decide) (fun c14 => ?_) (fun c14 => ?_)
                · have c14 := ci_le c14
                  refine lv_iload_n hx hb dX12_firstInk_84 rfl (lv_at hl 1 rfl) ?_
                  refine lv_if_eq (tgt := 90) hx hb dX12_firstInk_85 (by decide) (fun c15 => ?_) (fun c15 => ?_)
                  · have c15 := ci_eq c15
                    obtain ⟨x16, e17⟩ : ∃ y : Int32, y = k1 + 1 := ⟨_, rfl⟩
                    refine lv_iinc (v := x16) (lv' := [(1, .int x16), (3, .int k10), (2, .int k11), (0, .ref a12)]) hx hb dX12_firstInk_90 hl (k := 2) rfl (by rw [e17]; rfl) (by decide) rfl (fun ls hl => ?_)
                    try have h18 : x16.toInt = k1.toInt + (1 : Int32).toInt := ci_add e17 (by omega) (by omega)
                    refine lv_goto (tgt := 2) hx hb dX12_firstInk_93 (by decide) ?_
                    exact ih2 x16 (by omega) (by omega) _ _ hP hD hS _ (lv_sub hl [0, 3] rfl)
                  have c15 := ci_ne c15
                  refine lv_iload_n hx hb dX12_firstInk_88 rfl (lv_at hl 2 rfl) ?_
                  exact ret _ _ _ _ k1 () dX12_firstInk_89 trivial hP hD hS
                have c14 := ci_nle c14
                refine lv_iload_n hx hb dX12_firstInk_54 rfl (lv_at hl 1 rfl) ?_
                refine lv_if_eq (tgt := 76) hx hb dX12_firstInk_55 (by decide) (fun c19 => ?_) (fun c19 => ?_)
                · have c19 := ci_eq c19
                  refine lv_iconst (v := 0) hx hb dX12_firstInk_76 (by decide) ?_
                  refine lv_istore_n (lv' := [(2, .int 0), (3, .int k10), (1, .int k1), (0, .ref a12)]) hx hb dX12_firstInk_77 rfl hl (by decide) rfl (fun ls hl => ?_)
                  obtain ⟨x20, e21⟩ : ∃ y : Int32, y = k10 + 1 := ⟨_, rfl⟩
                  refine lv_iinc (v := x20) (lv' := [(3, .int x20), (2, .int 0), (1, .int k1), (0, .ref a12)]) hx hb dX12_firstInk_78 hl (k := 1) rfl (by rw [e21]; rfl) (by decide) rfl (fun ls hl => ?_)
                  try have h22 : x20.toInt = k10.toInt + (1 : Int32).toInt := ci_add e21 (by omega) (by omega)
                  refine lv_goto (tgt := 48) hx hb dX12_firstInk_81 (by decide) ?_
                  exact ih48 x20 0 (by omega) (by omega) _ _ hP hD hS _ hl
                have c19 := ci_ne c19
                refine lv_iload_n hx hb dX12_firstInk_58 rfl (lv_at hl 0 rfl) ?_
                refine lv_iload_n hx hb dX12_firstInk_59 rfl (lv_at hl 2 rfl) ?_
                refine lv_icmp_eq (tgt := 72) hx hb dX12_firstInk_60 (by decide) (fun c23 => ?_) (fun c23 => ?_)
                · have c23 := ci_eq c23
                  refine lv_iconst (v := 1) hx hb dX12_firstInk_72 (by decide) ?_
                  refine lv_goto (tgt := 77) hx hb dX12_firstInk_73 (by decide) ?_
                  refine lv_istore_n (lv' := [(2, .int 1), (3, .int k10), (1, .int k1), (0, .ref a12)]) hx hb dX12_firstInk_77 rfl hl (by decide) rfl (fun ls hl => ?_)
                  obtain ⟨x24, e25⟩ : ∃ y : Int32, y = k10 + 1 := ⟨_, rfl⟩
                  refine lv_iinc (v := x24) (lv' := [(3, .int x24), (2, .int 1), (1, .int k1), (0, .ref a12)]) hx hb dX12_firstInk_78 hl (k := 1) rfl (by rw [e25]; rfl) (by decide) rfl (fun ls hl => ?_)
                  try have h26 : x24.toInt = k10.toInt + (1 : Int32).toInt := ci_add e25 (by omega) (by omega)
                  refine lv_goto (tgt := 48) hx hb dX12_firstInk_81 (by decide) ?_
                  exact ih48 x24 1 (by omega) (by omega) _ _ hP hD hS _ hl
                have c23 := ci_ne c23
                refine lv_aload_n hx hb dX12_firstInk_63 rfl (lv_at hl 3 rfl) ?_
                refine lv_iload_n hx hb dX12_firstInk_64 rfl (lv_at hl 0 rfl) ?_
                refine lv_iload_n hx hb dX12_firstInk_65 rfl (lv_at hl 2 rfl) ?_
                refine kcm_i hA hAB hP hD hS [true, true, true, true, true, true] rfl (fun _ => rfl) (fun hPc hDc => va_runV (As := [.int k10, .int k1]) (rest := []) ⟨hx, hb, hml, hown, hts⟩ (k_X12_cameFirst l D κ β a12 r12 v12_keptMany v12_done v12_sheets v12_holes v12_worms v12_laidMany v12_wanted v12_orderMany v12_firstOrder v12_lines v12_marks v12_dots v12_madeIn v12_bound v12_places v12_maps v12_tapeMany v12_stories v12_base v12_at v12_ends v12_fault v12_opened v12_bodies v12_ran v12_ownKind v12_ownNumber f12_wormOf f12_lineInk f12_markLine f12_markHole f12_isOver H.size k10 k1 i1 i2 i3 i4 i5 i6 i7 i8 i9 i10 i11 i12 i13 i14 i15 i16 hf12_markLine hf12_markHole i17) (cwV 2 hts gX12_firstInk_X12_cameFirst rfl rfl rfl (by decide +kernel) ⟨Nat.le_of_ble_eq_true rfl, Nat.le_of_ble_eq_true rfl⟩) (pk_V hK hS hAB hPc hDc 0 (ci := 12) rfl rfl rfl) rfl rfl hl.1 rfl (lv_room (Nat.le_of_ble_eq_true rfl)) dX12_firstInk_66 ⟨Nat.le_of_ble_eq_true rfl, Nat.le_of_ble_eq_true rfl⟩) (fun x27 u28 H locs hw hPD hS => ?_)
                have h29 : x27.toInt = 0 ∨ x27.toInt = 1 := hw
                obtain ⟨hP, hD⟩ : PD D A [O12 a12 r12 v12_keptMany v12_done v12_sheets v12_holes v12_worms v12_laidMany v12_wanted v12_orderMany v12_firstOrder v12_lines v12_marks v12_dots v12_madeIn v12_bound v12_places v12_maps v12_tapeMany v12_stories v12_base v12_at v12_ends v12_fault v12_opened v12_bodies v12_ran v12_ownKind v12_ownNumber, (cI κ (r12 11) 40 f12_wormOf), (cI κ (r12 22) 20 f12_lineInk), (cI κ (r12 24) 60 f12_markLine), (cI κ (r12 25) 60 f12_markHole), (cZ κ (r12 26) 60 f12_isOver)] H := hPD
                refine lv_if_ne (tgt := 76) hx hb dX12_firstInk_69 (by decide) (fun c30 => ?_) (fun c30 => ?_)
                · have c30 := ci_ne c30
                  refine lv_iconst (v := 0) hx hb dX12_firstInk_76 (by decide) ?_
                  refine lv_istore_n (lv' := [(2, .int 0), (3, .int k10), (1, .int k1), (0, .ref a12)]) hx hb dX12_firstInk_77 rfl hl (by decide) rfl (fun ls hl => ?_)
                  obtain ⟨x31, e32⟩ : ∃ y : Int32, y = k10 + 1 := ⟨_, rfl⟩
                  refine lv_iinc (v := x31) (lv' := [(3, .int x31), (2, .int 0), (1, .int k1), (0, .ref a12)]) hx hb dX12_firstInk_78 hl (k := 1) rfl (by rw [e32]; rfl) (by decide) rfl (fun ls hl => ?_)
                  try have h33 : x31.toInt = k10.toInt + (1 : Int32).toInt := ci_add e32 (by omega) (by omega)
                  refine lv_goto (tgt := 48) hx hb dX12_firstInk_81 (by decide) ?_
                  exact ih48 x31 0 (by omega) (by omega) _ _ hP hD hS _ hl
                have c30 := ci_eq c30
                refine lv_iconst (v := 1) hx hb dX12_firstInk_72 (by decide) ?_
                refine lv_goto (tgt := 77) hx hb dX12_firstInk_73 (by decide) ?_
                refine lv_istore_n (lv' := [(2, .int 1), (3, .int k10), (1, .int k1), (0, .ref a12)]) hx hb dX12_firstInk_77 rfl hl (by decide) rfl (fun ls hl => ?_)
                obtain ⟨x34, e35⟩ : ∃ y : Int32, y = k10 + 1 := ⟨_, rfl⟩
                refine lv_iinc (v := x34) (lv' := [(3, .int x34), (2, .int 1), (1, .int k1), (0, .ref a12)]) hx hb dX12_firstInk_78 hl (k := 1) rfl (by rw [e35]; rfl) (by decide) rfl (fun ls hl => ?_)
                try have h36 : x34.toInt = k10.toInt + (1 : Int32).toInt := ci_add e35 (by omega) (by omega)
                refine lv_goto (tgt := 48) hx hb dX12_firstInk_81 (by decide) ?_
                exact ih48 x34 1 (by omega) (by omega) _ _ hP hD hS _ hl
            exact lp48 ((6 - (0 : Int32).toInt).toNat + 1) 0 k6 (by omega) (by omega) _ _ hP hD hS _ hl
          have c9 := ci_nle c9
          refine lv_iload_n hx hb dX12_firstInk_20 rfl (lv_at hl 1 rfl) ?_
          refine lv_if_ne (tgt := 34) hx hb dX12_firstInk_21 (by decide) (fun c37 => ?_) (fun c37 => ?_)
          · have c37 := ci_ne c37
            refine lv_iconst (v := 1) hx hb dX12_firstInk_34 (by decide) ?_
            refine lv_goto (tgt := 39) hx hb dX12_firstInk_35 (by decide) ?_
            refine lv_istore_n (lv' := [(2, .int 1), (3, .int k5), (1, .int k1), (0, .ref a12)]) hx hb dX12_firstInk_39 rfl hl (by decide) rfl (fun ls hl => ?_)
            obtain ⟨x38, e39⟩ : ∃ y : Int32, y = k5 + 1 := ⟨_, rfl⟩
            refine lv_iinc (v := x38) (lv' := [(3, .int x38), (2, .int 1), (1, .int k1), (0, .ref a12)]) hx hb dX12_firstInk_40 hl (k := 1) rfl (by rw [e39]; rfl) (by decide) rfl (fun ls hl => ?_)
            try have h40 : x38.toInt = k5.toInt + (1 : Int32).toInt := ci_add e39 (by omega) (by omega)
            refine lv_goto (tgt := 12) hx hb dX12_firstInk_43 (by decide) ?_
            exact ih12 x38 1 (by omega) (by omega) _ _ hP hD hS _ hl
          have c37 := ci_eq c37
          refine lv_aload_n hx hb dX12_firstInk_24 rfl (lv_at hl 3 rfl) ?_
          refine va_get (D := D) (ci := 12) (v := .ref (r12 22)) (C := RX12) (T := TX12) (N := 63) hx hb hts w1 hown hK.1 hP 0 rfl rfl 22 (by decide) w2 (fun _ h9 => h9) rfl dX12_firstInk_25 ?_
          refine lv_iload_n hx hb dX12_firstInk_28 rfl (lv_at hl 0 rfl) ?_
          refine va_iald hx hb hK.1 hP 2 1 rfl rfl (i := k5) (ix (by omega) (by omega)) dX12_firstInk_29 ?_
          refine lv_topi (fun x41 e42 => ?_)
          refine lv_iload_n hx hb dX12_firstInk_30 rfl (lv_at hl 2 rfl) ?_
          refine lv_icmp_ne (tgt := 38) hx hb dX12_firstInk_31 (by decide) (fun c43 => ?_) (fun c43 => ?_)
          · have c43 := ci_ne c43
            refine lv_iconst (v := 0) hx hb dX12_firstInk_38 (by decide) ?_
            refine lv_istore_n (lv' := [(2, .int 0), (3, .int k5), (1, .int k1), (0, .ref a12)]) hx hb dX12_firstInk_39 rfl hl (by decide) rfl (fun ls hl => ?_)
            obtain ⟨x44, e45⟩ : ∃ y : Int32, y = k5 + 1 := ⟨_, rfl⟩
            refine lv_iinc (v := x44) (lv' := [(3, .int x44), (2, .int 0), (1, .int k1), (0, .ref a12)]) hx hb dX12_firstInk_40 hl (k := 1) rfl (by rw [e45]; rfl) (by decide) rfl (fun ls hl => ?_)
            try have h46 : x44.toInt = k5.toInt + (1 : Int32).toInt := ci_add e45 (by omega) (by omega)
            refine lv_goto (tgt := 12) hx hb dX12_firstInk_43 (by decide) ?_
            exact ih12 x44 0 (by omega) (by omega) _ _ hP hD hS _ hl
          have c43 := ci_eq c43
          refine lv_iconst (v := 1) hx hb dX12_firstInk_34 (by decide) ?_
          refine lv_goto (tgt := 39) hx hb dX12_firstInk_35 (by decide) ?_
          refine lv_istore_n (lv' := [(2, .int 1), (3, .int k5), (1, .int k1), (0, .ref a12)]) hx hb dX12_firstInk_39 rfl hl (by decide) rfl (fun ls hl => ?_)
          obtain ⟨x47, e48⟩ : ∃ y : Int32, y = k5 + 1 := ⟨_, rfl⟩
          refine lv_iinc (v := x47) (lv' := [(3, .int x47), (2, .int 1), (1, .int k1), (0, .ref a12)]) hx hb dX12_firstInk_40 hl (k := 1) rfl (by rw [e48]; rfl) (by decide) rfl (fun ls hl => ?_)
          try have h49 : x47.toInt = k5.toInt + (1 : Int32).toInt := ci_add e48 (by omega) (by omega)
          refine lv_goto (tgt := 12) hx hb dX12_firstInk_43 (by decide) ?_
          exact ih12 x47 1 (by omega) (by omega) _ _ hP hD hS _ hl
      exact lp12 ((v12_lines.toInt - (0 : Int32).toInt).toNat + 1) 0 0 (by omega) (by omega) _ _ hP hD hS _ hl
  exact lp2 ((6 - (0 : Int32).toInt).toNat + 1) 0 (by omega) (by omega) _ _ hP hD hS _ hl
set_option maxHeartbeats 4000000 in
set_option maxRecDepth 100000 in
theorem k_X12_ringOf (l : Launch) (D : va_G) (κ : Nat → ClassId) (β : Nat) (a12 : Nat) (r12 : Nat → Nat) (v12_keptMany : Int32) (v12_done : Int32) (v12_sheets : Int32) (v12_holes : Int32) (v12_worms : Int32) (v12_laidMany : Int32) (v12_wanted : Int32) (v12_orderMany : Int32) (v12_firstOrder : Int32) (v12_lines : Int32) (v12_marks : Int32) (v12_dots : Int32) (v12_madeIn : Int32) (v12_bound : Int32) (v12_places : Int32) (v12_maps : Int32) (v12_tapeMany : Int32) (v12_stories : Int32) (v12_base : Int32) (v12_at : Int32) (v12_ends : Int32) (v12_fault : Int32) (v12_opened : Int32) (v12_bodies : Int32) (v12_ran : Int32) (v12_ownKind : Int32) (v12_ownNumber : Int32) (f12_wormOf : Nat → Int32) (f12_lineInk : Nat → Int32) (f12_markLine : Nat → Int32) (f12_markHole : Nat → Int32) (f12_isOver : Nat → Int32) (sz : Nat) (i1 : Rg 0 40 v12_keptMany) (i2 : Rg 0 40 v12_done) (i3 : Rg 0 8 v12_sheets) (i4 : Rg 0 40 v12_holes) (i5 : Rg 0 40 v12_worms) (i6 : Rg 0 8 v12_laidMany) (i7 : Rg 0 8 v12_wanted) (i8 : Rg 0 20 v12_lines) (i9 : Rg 0 60 v12_marks) (i10 : Rg 0 40 v12_dots) (i11 : Rg 0 20 v12_places) (i12 : Rg 0 8 v12_maps) (i13 : Rg 0 120 v12_tapeMany) (i14 : Rg 0 6 v12_stories) (i15 : Rg 0 50 v12_bodies) (i16 : Rg 0 1000 v12_ran) (hf12_markLine : ∀ j : Nat, 0 ≤ (f12_markLine j).toInt ∧ (f12_markLine j).toInt ≤ 19) (hf12_markHole : ∀ j : Nat, 0 ≤ (f12_markHole j).toInt ∧ (f12_markHole j).toInt ≤ 39) (i17 : v12_done.toInt ≤ v12_keptMany.toInt) : Met l yX12_ringOf wsX12_ringOf ({ frames := 2, cells := 0, slots := 0, locals := 49 } : Room) (PcK D κ β [O12 a12 r12 v12_keptMany v12_done v12_sheets v12_holes v12_worms v12_laidMany v12_wanted v12_orderMany v12_firstOrder v12_lines v12_marks v12_dots v12_madeIn v12_bound v12_places v12_maps v12_tapeMany v12_stories v12_base v12_at v12_ends v12_fault v12_opened v12_bodies v12_ran v12_ownKind v12_ownNumber, (cI κ (r12 11) 40 f12_wormOf), (cI κ (r12 22) 20 f12_lineInk), (cI κ (r12 24) 60 f12_markLine), (cI κ (r12 25) 60 f12_markHole), (cZ κ (r12 26) 60 f12_isOver)] sz [.ref a12]) (QiK D (fun (r : Int32) (u : Unit) => True) (fun (u : Unit) => [O12 a12 r12 v12_keptMany v12_done v12_sheets v12_holes v12_worms v12_laidMany v12_wanted v12_orderMany v12_firstOrder v12_lines v12_marks v12_dots v12_madeIn v12_bound v12_places v12_maps v12_tapeMany v12_stories v12_base v12_at v12_ends v12_fault v12_opened v12_bodies v12_ran v12_ownKind v12_ownNumber, (cI κ (r12 11) 40 f12_wormOf), (cI κ (r12 22) 20 f12_lineInk), (cI κ (r12 24) 60 f12_markLine), (cI κ (r12 25) 60 f12_markHole), (cZ κ (r12 26) 60 f12_isOver)]) [O12 a12 r12 v12_keptMany v12_done v12_sheets v12_holes v12_worms v12_laidMany v12_wanted v12_orderMany v12_firstOrder v12_lines v12_marks v12_dots v12_madeIn v12_bound v12_places v12_maps v12_tapeMany v12_stories v12_base v12_at v12_ends v12_fault v12_opened v12_bodies v12_ran v12_ownKind v12_ownNumber, (cI κ (r12 11) 40 f12_wormOf), (cI κ (r12 22) 20 f12_lineInk), (cI κ (r12 24) 60 f12_markLine), (cI κ (r12 25) 60 f12_markHole), (cZ κ (r12 26) 60 f12_isOver)] sz) 0 0 (va_A [O12 a12 r12 v12_keptMany v12_done v12_sheets v12_holes v12_worms v12_laidMany v12_wanted v12_orderMany v12_firstOrder v12_lines v12_marks v12_dots v12_madeIn v12_bound v12_places v12_maps v12_tapeMany v12_stories v12_base v12_at v12_ends v12_fault v12_opened v12_bodies v12_ran v12_ownKind v12_ownNumber, (cI κ (r12 11) 40 f12_wormOf), (cI κ (r12 22) 20 f12_lineInk), (cI κ (r12 24) 60 f12_markLine), (cI κ (r12 25) 60 f12_markHole), (cZ κ (r12 26) 60 f12_isOver)] sz) := by
  refine ofK_i (cc := cX12_ringOf) (maxL := 3) (own := RX12) (by decide) rfl rfl (Nat.le_of_ble_eq_true rfl) ?_
  intro p e s m args below meth c Q A ls hsz hx hb hml hts hown hK hA hAB hP hD hl ret
  have hS : va_S A s.heap s.heap [] := va_S.rf
  have hl : lv_has ls 3 [(0, .ref a12)] := hl
  have l0 : (0 : Int32).toInt = 0 := by decide
  have l1 : (6 : Int32).toInt = 6 := by decide
  have l2 : ((-2) : Int32).toInt = -2 := by decide
  have l3 : (1 : Int32).toInt = 1 := by decide
  have l4 : (10 : Int32).toInt = 10 := by decide
  refine lv_iconst (v := 0) hx hb dX12_ringOf_0 (by decide) ?_
  refine lv_istore_n (lv' := [(1, .int 0), (0, .ref a12)]) hx hb dX12_ringOf_1 rfl hl (by decide) rfl (fun ls hl => ?_)
  have lp2 : ∀ (n2 : Nat) (k1 : Int32), (0 ≤ k1.toInt) → (6 - k1.toInt).toNat < n2 → ∀ (H : Heap) (locs : List Loc), va_P D vwCl [O12 a12 r12 v12_keptMany v12_done v12_sheets v12_holes v12_worms v12_laidMany v12_wanted v12_orderMany v12_firstOrder v12_lines v12_marks v12_dots v12_madeIn v12_bound v12_places v12_maps v12_tapeMany v12_stories v12_base v12_at v12_ends v12_fault v12_opened v12_bodies v12_ran v12_ownKind v12_ownNumber, (cI κ (r12 11) 40 f12_wormOf), (cI κ (r12 22) 20 f12_lineInk), (cI κ (r12 24) 60 f12_markLine), (cI κ (r12 25) 60 f12_markHole), (cZ κ (r12 26) 60 f12_isOver)] H → va_D A [O12 a12 r12 v12_keptMany v12_done v12_sheets v12_holes v12_worms v12_laidMany v12_wanted v12_orderMany v12_firstOrder v12_lines v12_marks v12_dots v12_madeIn v12_bound v12_places v12_maps v12_tapeMany v12_stories v12_base v12_at v12_ends v12_fault v12_opened v12_bodies v12_ran v12_ownKind v12_ownNumber, (cI κ (r12 11) 40 f12_wormOf), (cI κ (r12 22) 20 f12_lineInk), (cI κ (r12 24) 60 f12_markLine), (cI κ (r12 25) 60 f12_markHole), (cZ κ (r12 26) 60 f12_isOver)] → va_S A s.heap H locs → ∀ ls : Array Slot, lv_has ls 3 [(1, .int k1), (0, .ref a12)] → W p l e ({ frames := 2, cells := 0, slots := 0, locals := 49 } : Room) s m args below meth c H locs 0 0 Q (F0 m 2 ls []) := by
    intro n2
    induction n2 with
    | zero =>
      intro k1 h2 m3
      exact absurd m3 (Nat.not_lt_zero _)
    | succ n2 ih2 =>
      intro k1 h2 m3 H locs hP hD hS ls hl
      refine lv_iload_n hx hb dX12_ringOf_2 rfl (lv_at hl 0 rfl) ?_
      refine lv_bipush (v := 6) hx hb dX12_ringOf_3 (by decide) ?_
      refine lv_icmp_ge (tgt := 55) hx hb dX12_ringOf_5 (by decide) (fun c4 => ?_) (fun c4 => ?_)
      · have c4 := ci_le c4
        refine lv_bipush (v := (-2)) hx hb dX12_ringOf_55 (by decide) ?_
        exact ret _ _ _ _ (-2) () dX12_ringOf_57 trivial hP hD hS
      have c4 := ci_nle c4
      refine lv_iload_n hx hb dX12_ringOf_8 rfl (lv_at hl 0 rfl) ?_
      refine lv_iconst (v := 1) hx hb dX12_ringOf_9 (by decide) ?_
      refine lv_iadd hx hb dX12_ringOf_10 ?_
      refine lv_topi (fun x5 e6 => ?_)
      try have h7 : x5.toInt = k1.toInt + (1 : Int32).toInt := ci_add e6 (by omega) (by omega)
      refine lv_istore_n (lv' := [(2, .int x5), (1, .int k1), (0, .ref a12)]) hx hb dX12_ringOf_11 rfl hl (by decide) rfl (fun ls hl => ?_)
      have lp12 : ∀ (n12 : Nat) (k8 : Int32), (0 ≤ k8.toInt) → (6 - k8.toInt).toNat < n12 → ∀ (H : Heap) (locs : List Loc), va_P D vwCl [O12 a12 r12 v12_keptMany v12_done v12_sheets v12_holes v12_worms v12_laidMany v12_wanted v12_orderMany v12_firstOrder v12_lines v12_marks v12_dots v12_madeIn v12_bound v12_places v12_maps v12_tapeMany v12_stories v12_base v12_at v12_ends v12_fault v12_opened v12_bodies v12_ran v12_ownKind v12_ownNumber, (cI κ (r12 11) 40 f12_wormOf), (cI κ (r12 22) 20 f12_lineInk), (cI κ (r12 24) 60 f12_markLine), (cI κ (r12 25) 60 f12_markHole), (cZ κ (r12 26) 60 f12_isOver)] H → va_D A [O12 a12 r12 v12_keptMany v12_done v12_sheets v12_holes v12_worms v12_laidMany v12_wanted v12_orderMany v12_firstOrder v12_lines v12_marks v12_dots v12_madeIn v12_bound v12_places v12_maps v12_tapeMany v12_stories v12_base v12_at v12_ends v12_fault v12_opened v12_bodies v12_ran v12_ownKind v12_ownNumber, (cI κ (r12 11) 40 f12_wormOf), (cI κ (r12 22) 20 f12_lineInk), (cI κ (r12 24) 60 f12_markLine), (cI κ (r12 25) 60 f12_markHole), (cZ κ (r12 26) 60 f12_isOver)] → va_S A s.heap H locs → ∀ ls : Array Slot, lv_has ls 3 [(2, .int k8), (1, .int k1), (0, .ref a12)] → W p l e ({ frames := 2, cells := 0, slots := 0, locals := 49 } : Room) s m args below meth c H locs 0 0 Q (F0 m 12 ls []) := by
        intro n12
        induction n12 with
        | zero =>
          intro k8 h9 m10
          exact absurd m10 (Nat.not_lt_zero _)
        | succ n12 ih12 =>
          intro k8 h9 m10 H locs hP hD hS ls hl
          refine lv_iload_n hx hb dX12_ringOf_12 rfl (lv_at hl 0 rfl) ?_
          refine lv_bipush (v := 6) hx hb dX12_ringOf_13 (by decide) ?_
          refine lv_icmp_ge (tgt := 49) hx hb dX12_ringOf_15 (by decide) (fun c11 => ?_) (fun c11 => ?_)
          · have c11 := ci_le c11
            obtain ⟨x12, e13⟩ : ∃ y : Int32, y = k1 + 1 := ⟨_, rfl⟩
            refine lv_iinc (v := x12) (lv' := [(1, .int x12), (2, .int k8), (0, .ref a12)]) hx hb dX12_ringOf_49 hl (k := 1) rfl (by rw [e13]; rfl) (by decide) rfl (fun ls hl => ?_)
            try have h14 : x12.toInt = k1.toInt + (1 : Int32).toInt := ci_add e13 (by omega) (by omega)
            refine lv_goto (tgt := 2) hx hb dX12_ringOf_52 (by decide) ?_
            exact ih2 x12 (by omega) (by omega) _ _ hP hD hS _ (lv_sub hl [0, 2] rfl)
          have c11 := ci_nle c11
          refine lv_aload_n hx hb dX12_ringOf_18 rfl (lv_at hl 2 rfl) ?_
          refine lv_iload_n hx hb dX12_ringOf_19 rfl (lv_at hl 1 rfl) ?_
          refine lv_iload_n hx hb dX12_ringOf_20 rfl (lv_at hl 0 rfl) ?_
          refine kcm_i hA hAB hP hD hS [true, true, true, true, true, true] rfl (fun _ => rfl) (fun hPc hDc => va_runV (As := [.int k1, .int k8]) (rest := []) ⟨hx, hb, hml, hown, hts⟩ (k_X12_cameFirst l D κ β a12 r12 v12_keptMany v12_done v12_sheets v12_holes v12_worms v12_laidMany v12_wanted v12_orderMany v12_firstOrder v12_lines v12_marks v12_dots v12_madeIn v12_bound v12_places v12_maps v12_tapeMany v12_stories v12_base v12_at v12_ends v12_fault v12_opened v12_bodies v12_ran v12_ownKind v12_ownNumber f12_wormOf f12_lineInk f12_markLine f12_markHole f12_isOver H.size k1 k8 i1 i2 i3 i4 i5 i6 i7 i8 i9 i10 i11 i12 i13 i14 i15 i16 hf12_markLine hf12_markHole i17) (cwV 2 hts gX12_ringOf_X12_cameFirst rfl rfl rfl (by decide +kernel) ⟨Nat.le_of_ble_eq_true rfl, Nat.le_of_ble_eq_true rfl⟩) (pk_V hK hS hAB hPc hDc 0 (ci := 12) rfl rfl rfl) rfl rfl hl.1 rfl (lv_room (Nat.le_of_ble_eq_true rfl)) dX12_ringOf_21 ⟨Nat.le_of_ble_eq_true rfl, Nat.le_of_ble_eq_true rfl⟩) (fun x15 u16 H locs hw hPD hS => ?_)
          have h17 : x15.toInt = 0 ∨ x15.toInt = 1 := hw
          obtain ⟨hP, hD⟩ : PD D A [O12 a12 r12 v12_keptMany v12_done v12_sheets v12_holes v12_worms v12_laidMany v12_wanted v12_orderMany v12_firstOrder v12_lines v12_marks v12_dots v12_madeIn v12_bound v12_places v12_maps v12_tapeMany v12_stories v12_base v12_at v12_ends v12_fault v12_opened v12_bodies v12_ran v12_ownKind v12_ownNumber, (cI κ (r12 11) 40 f12_wormOf), (cI κ (r12 22) 20 f12_lineInk), (cI κ (r12 24) 60 f12_markLine), (cI κ (r12 25) 60 f12_markHole), (cZ κ (r12 26) 60 f12_isOver)] H := hPD
          refine lv_if_eq (tgt := 43) hx hb dX12_ringOf_24 (by decide) (fun c18 => ?_) (fun c18 => ?_)
          · have c18 := ci_eq c18
            obtain ⟨x19, e20⟩ : ∃ y : Int32, y = k8 + 1 := ⟨_, rfl⟩
            refine lv_iinc (v := x19) (lv' := [(2, .int x19), (1, .int k1), (0, .ref a12)]) hx hb dX12_ringOf_43 hl (k := 0) rfl (by rw [e20]; rfl) (by decide) rfl (fun ls hl => ?_)
            try have h21 : x19.toInt = k8.toInt + (1 : Int32).toInt := ci_add e20 (by omega) (by omega)
            refine lv_goto (tgt := 12) hx hb dX12_ringOf_46 (by decide) ?_
            exact ih12 x19 (by omega) (by omega) _ _ hP hD hS _ hl
          have c18 := ci_ne c18
          refine lv_aload_n hx hb dX12_ringOf_27 rfl (lv_at hl 2 rfl) ?_
          refine lv_iload_n hx hb dX12_ringOf_28 rfl (lv_at hl 0 rfl) ?_
          refine lv_iload_n hx hb dX12_ringOf_29 rfl (lv_at hl 1 rfl) ?_
          refine kcm_i hA hAB hP hD hS [true, true, true, true, true, true] rfl (fun _ => rfl) (fun hPc hDc => va_runV (As := [.int k8, .int k1]) (rest := []) ⟨hx, hb, hml, hown, hts⟩ (k_X12_cameFirst l D κ β a12 r12 v12_keptMany v12_done v12_sheets v12_holes v12_worms v12_laidMany v12_wanted v12_orderMany v12_firstOrder v12_lines v12_marks v12_dots v12_madeIn v12_bound v12_places v12_maps v12_tapeMany v12_stories v12_base v12_at v12_ends v12_fault v12_opened v12_bodies v12_ran v12_ownKind v12_ownNumber f12_wormOf f12_lineInk f12_markLine f12_markHole f12_isOver H.size k8 k1 i1 i2 i3 i4 i5 i6 i7 i8 i9 i10 i11 i12 i13 i14 i15 i16 hf12_markLine hf12_markHole i17) (cwV 2 hts gX12_ringOf_X12_cameFirst rfl rfl rfl (by decide +kernel) ⟨Nat.le_of_ble_eq_true rfl, Nat.le_of_ble_eq_true rfl⟩) (pk_V hK hS hAB hPc hDc 0 (ci := 12) rfl rfl rfl) rfl rfl hl.1 rfl (lv_room (Nat.le_of_ble_eq_true rfl)) dX12_ringOf_30 ⟨Nat.le_of_ble_eq_true rfl, Nat.le_of_ble_eq_true rfl⟩) (fun x22 u23 H locs hw hPD hS => ?_)
          have h24 : x22.toInt = 0 ∨ x22.toInt = 1 := hw
          obtain ⟨hP, hD⟩ : PD D A [O12 a12 r12 v12_keptMany v12_done v12_sheets v12_holes v12_worms v12_laidMany v12_wanted v12_orderMany v12_firstOrder v12_lines v12_marks v12_dots v12_madeIn v12_bound v12_places v12_maps v12_tapeMany v12_stories v12_base v12_at v12_ends v12_fault v12_opened v12_bodies v12_ran v12_ownKind v12_ownNumber, (cI κ (r12 11) 40 f12_wormOf), (cI κ (r12 22) 20 f12_lineInk), (cI κ (r12 24) 60 f12_markLine), (cI κ (r12 25) 60 f12_markHole), (cZ κ (r12 26) 60 f12_isOver)] H := hPD
          refine lv_if_eq (tgt := 43) hx hb dX12_ringOf_33 (by decide) (fun c25 => ?_) (fun c25 => ?_)
          · have c25 := ci_eq c25
            obtain ⟨x26, e27⟩ : ∃ y : Int32, y = k8 + 1 := ⟨_, rfl⟩
            refine lv_iinc (v := x26) (lv' := [(2, .int x26), (1, .int k1), (0, .ref a12)]) hx hb dX12_ringOf_43 hl (k := 0) rfl (by rw [e27]; rfl) (by decide) rfl (fun ls hl => ?_)
            try have h28 : x26.toInt = k8.toInt + (1 : Int32).toInt := ci_add e27 (by omega) (by omega)
            refine lv_goto (tgt := 12) hx hb dX12_ringOf_46 (by decide) ?_
            exact ih12 x26 (by omega) (by omega) _ _ hP hD hS _ hl
          have c25 := ci_ne c25
          refine lv_bipush (v := 10) hx hb dX12_ringOf_36 (by decide) ?_
          refine lv_iload_n hx hb dX12_ringOf_38 rfl (lv_at hl 1 rfl) ?_
          refine lv_imul hx hb dX12_ringOf_39 ?_
          refine lv_topi (fun x29 e30 => ?_)
          try have h31 : x29.toInt = 10 * k1.toInt := ci_mulL (n := 10) (by decide) e30 (by omega) (by omega)
          refine lv_iload_n hx hb dX12_ringOf_40 rfl (lv_at hl 0 rfl) ?_
          refine lv_iadd hx hb dX12_ringOf_41 ?_
          refine lv_topi (fun x32 e33 => ?_)
          try have h34 : x32.toInt = x29.toInt + k8.toInt := ci_add e33 (by omega) (by omega)
          exact ret _ _ _ _ x32 () dX12_ringOf_42 trivial hP hD hS
      exact lp12 ((6 - x5.toInt).toNat + 1) x5 (by omega) (by omega) _ _ hP hD hS _ hl
  exact lp2 ((6 - (0 : Int32).toInt).toNat + 1) 0 (by omega) (by omega) _ _ hP hD hS _ hl
set_option maxHeartbeats 4000000 in
set_option maxRecDepth 100000 in
theorem k_X12_inks (l : Launch) (D : va_G) (κ : Nat → ClassId) (β : Nat) (a12 : Nat) (r12 : Nat → Nat) (v12_keptMany : Int32) (v12_done : Int32) (v12_sheets : Int32) (v12_holes : Int32) (v12_worms : Int32) (v12_laidMany : Int32) (v12_wanted : Int32) (v12_orderMany : Int32) (v12_firstOrder : Int32) (v12_lines : Int32) (v12_marks : Int32) (v12_dots : Int32) (v12_madeIn : Int32) (v12_bound : Int32) (v12_places : Int32) (v12_maps : Int32) (v12_tapeMany : Int32) (v12_stories : Int32) (v12_base : Int32) (v12_at : Int32) (v12_ends : Int32) (v12_fault : Int32) (v12_opened : Int32) (v12_bodies : Int32) (v12_ran : Int32) (v12_ownKind : Int32) (v12_ownNumber : Int32) (f12_sheetOf : Nat → Int32) (f12_placeOf : Nat → Int32) (f12_sorted : Nat → Int32) (f12_wormOf : Nat → Int32) (f12_wormSheets : Nat → Int32) (f12_lineInk : Nat → Int32) (f12_markLine : Nat → Int32) (f12_markHole : Nat → Int32) (f12_isOver : Nat → Int32) (sz : Nat) (p1 : Int32) (p2 : Int32) (i1 : Rg 0 40 v12_keptMany) (i2 : Rg 0 40 v12_done) (i3 : Rg 0 8 v12_sheets) (i4 : Rg 0 40 v12_holes) (i5 : Rg 0 40 v12_worms) (i6 : Rg 0 8 v12_laidMany) (i7 : Rg 0 8 v12_wanted) (i8 : Rg 0 20 v12_lines) (i9 : Rg 0 60 v12_marks) (i10 : Rg 0 40 v12_dots) (i11 : Rg 0 20 v12_places) (i12 : Rg 0 8 v12_maps) (i13 : Rg 0 120 v12_tapeMany) (i14 : Rg 0 6 v12_stories) (i15 : Rg 0 50 v12_bodies) (i16 : Rg 0 1000 v12_ran) (hf12_sheetOf : ∀ j : Nat, 0 ≤ (f12_sheetOf j).toInt ∧ (f12_sheetOf j).toInt ≤ 7) (hf12_placeOf : ∀ j : Nat, 0 ≤ (f12_placeOf j).toInt ∧ (f12_placeOf j).toInt ≤ 999) (hf12_sorted : ∀ j : Nat, 0 ≤ (f12_sorted j).toInt ∧ (f12_sorted j).toInt ≤ 39) (hf12_markLine : ∀ j : Nat, 0 ≤ (f12_markLine j).toInt ∧ (f12_markLine j).toInt ≤ 19) (hf12_markHole : ∀ j : Nat, 0 ≤ (f12_markHole j).toInt ∧ (f12_markHole j).toInt ≤ 39) (i17 : v12_done.toInt ≤ v12_keptMany.toInt) : Met l yX12_inks wsX12_inks ({ frames := 3, cells := 0, slots := 0, locals := 72 } : Room) (PcK D κ β [O12 a12 r12 v12_keptMany v12_done v12_sheets v12_holes v12_worms v12_laidMany v12_wanted v12_orderMany v12_firstOrder v12_lines v12_marks v12_dots v12_madeIn v12_bound v12_places v12_maps v12_tapeMany v12_stories v12_base v12_at v12_ends v12_fault v12_opened v12_bodies v12_ran v12_ownKind v12_ownNumber, (cI κ (r12 8) 40 f12_sheetOf), (cI κ (r12 9) 40 f12_placeOf), (cI κ (r12 10) 40 f12_sorted), (cI κ (r12 11) 40 f12_wormOf), (cI κ (r12 12) 40 f12_wormSheets), (cI κ (r12 22) 20 f12_lineInk), (cI κ (r12 24) 60 f12_markLine), (cI κ (r12 25) 60 f12_markHole), (cZ κ (r12 26) 60 f12_isOver)] sz [.ref a12, .int p1, .int p2]) (QiK D (fun (r : Int32) (u : Int32 × (Nat → Int32) × (Nat → Int32) × (Nat → Int32)) => (0 ≤ u.1.toInt ∧ u.1.toInt ≤ 40) ∧ (∀ j : Nat, 0 ≤ (u.2.1 j).toInt ∧ (u.2.1 j).toInt ≤ 39)) (fun (u : Int32 × (Nat → Int32) × (Nat → Int32) × (Nat → Int32)) => [O12 a12 r12 v12_keptMany v12_done v12_sheets v12_holes u.1 v12_laidMany v12_wanted v12_orderMany v12_firstOrder v12_lines v12_marks v12_dots v12_madeIn v12_bound v12_places v12_maps v12_tapeMany v12_stories v12_base v12_at v12_ends v12_fault v12_opened v12_bodies v12_ran v12_ownKind v12_ownNumber, (cI κ (r12 8) 40 f12_sheetOf), (cI κ (r12 9) 40 f12_placeOf), (cI κ (r12 10) 40 u.2.1), (cI κ (r12 11) 40 u.2.2.1), (cI κ (r12 12) 40 u.2.2.2), (cI κ (r12 22) 20 f12_lineInk), (cI κ (r12 24) 60 f12_markLine), (cI κ (r12 25) 60 f12_markHole), (cZ κ (r12 26) 60 f12_isOver)]) [O12 a12 r12 v12_keptMany v12_done v12_sheets v12_holes v12_worms v12_laidMany v12_wanted v12_orderMany v12_firstOrder v12_lines v12_marks v12_dots v12_madeIn v12_bound v12_places v12_maps v12_tapeMany v12_stories v12_base v12_at v12_ends v12_fault v12_opened v12_bodies v12_ran v12_ownKind v12_ownNumber, (cI κ (r12 8) 40 f12_sheetOf), (cI κ (r12 9) 40 f12_placeOf), (cI κ (r12 10) 40 f12_sorted), (cI κ (r12 11) 40 f12_wormOf), (cI κ (r12 12) 40 f12_wormSheets), (cI κ (r12 22) 20 f12_lineInk), (cI κ (r12 24) 60 f12_markLine), (cI κ (r12 25) 60 f12_markHole), (cZ κ (r12 26) 60 f12_isOver)] sz) 0 0 (va_A [O12 a12 r12 v12_keptMany v12_done v12_sheets v12_holes v12_worms v12_laidMany v12_wanted v12_orderMany v12_firstOrder v12_lines v12_marks v12_dots v12_madeIn v12_bound v12_places v12_maps v12_tapeMany v12_stories v12_base v12_at v12_ends v12_fault v12_opened v12_bodies v12_ran v12_ownKind v12_ownNumber, (cI κ (r12 8) 40 f12_sheetOf), (cI κ (r12 9) 40 f12_placeOf), (cI κ (r12 10) 40 f12_sorted), (cI κ (r12 11) 40 f12_wormOf), (cI κ (r12 12) 40 f12_wormSheets), (cI κ (r12 22) 20 f12_lineInk), (cI κ (r12 24) 60 f12_markLine), (cI κ (r12 25) 60 f12_markHole), (cZ κ (r12 26) 60 f12_isOver)] sz) := by
  refine ofK_i (cc := cX12_inks) (maxL := 3) (own := RX12) (by decide) rfl rfl (Nat.le_of_ble_eq_true rfl) ?_
  intro p e s m args below meth c Q A ls hsz hx hb hml hts hown hK hA hAB hP hD hl ret
  have hS : va_S A s.heap s.heap [] := va_S.rf
  have hl : lv_has ls 3 [(0, .ref a12), (1, .int p1), (2, .int p2)] := hl
  have l0 : (0 : Int32).toInt = 0 := by decide
  have l1 : ((-1) : Int32).toInt = -1 := by decide
  have l2 : ((-2) : Int32).toInt = -2 := by decide
  have l3 : (10 : Int32).toInt = 10 := by decide
  have l4 : (1 : Int32).toInt = 1 := by decide
  have i4 : 0 ≤ v12_holes.toInt ∧ v12_holes.toInt ≤ 40 := i4
  have i5 : 0 ≤ v12_worms.toInt ∧ v12_worms.toInt ≤ 40 := i5
  refine lv_iload_n hx hb dX12_inks_0 rfl (lv_at hl 1 rfl) ?_
  refine kcm_i hA hAB hP hD hS [false, false, false, false, false, false, false, false, false, false] rfl (fun _ => rfl) (fun hPc hDc => va_runS (As := [.int p1]) (rest := []) ⟨hx, hb, hml, hown, hts⟩ (k_X12_isSlack l D κ β s.heap.size p1) (va_cwS 1 hts gX12_inks_X12_isSlack rfl rfl rfl (by decide +kernel) ⟨Nat.le_of_ble_eq_true rfl, Nat.le_of_ble_eq_true rfl⟩) (pk_S hK hS hAB hPc hDc) rfl rfl hl.1 rfl (lv_room (Nat.le_of_ble_eq_true rfl)) dX12_inks_1 ⟨Nat.le_of_ble_eq_true rfl, Nat.le_of_ble_eq_true rfl⟩) (fun x1 u2 H locs hw hPD hS => ?_)
  have h3 : (x1.toInt = 1 ∧ 0 ≤ p1.toInt ∧ p1.toInt ≤ 99) ∨ (x1.toInt = 0 ∧ (p1.toInt < 0 ∨ 99 < p1.toInt)) := hw
  obtain ⟨hP, hD⟩ : PD D A [O12 a12 r12 v12_keptMany v12_done v12_sheets v12_holes v12_worms v12_laidMany v12_wanted v12_orderMany v12_firstOrder v12_lines v12_marks v12_dots v12_madeIn v12_bound v12_places v12_maps v12_tapeMany v12_stories v12_base v12_at v12_ends v12_fault v12_opened v12_bodies v12_ran v12_ownKind v12_ownNumber, (cI κ (r12 8) 40 f12_sheetOf), (cI κ (r12 9) 40 f12_placeOf), (cI κ (r12 10) 40 f12_sorted), (cI κ (r12 11) 40 f12_wormOf), (cI κ (r12 12) 40 f12_wormSheets), (cI κ (r12 22) 20 f12_lineInk), (cI κ (r12 24) 60 f12_markLine), (cI κ (r12 25) 60 f12_markHole), (cZ κ (r12 26) 60 f12_isOver)] H := hPD
  refine lv_if_eq (tgt := 48) hx hb dX12_inks_4 (by decide) (fun c4 => ?_) (fun c4 => ?_)
  · have c4 := ci_eq c4
    refine lv_iconst (v := (-1)) hx hb dX12_inks_48 (by decide) ?_
    have hpo : (0 ≤ v12_worms.toInt ∧ v12_worms.toInt ≤ 40) ∧ (∀ j : Nat, 0 ≤ (f12_sorted j).toInt ∧ (f12_sorted j).toInt ≤ 39) := ⟨i5, hf12_sorted⟩
    exact ret _ _ _ _ (-1) (v12_worms, f12_sorted, f12_wormOf, f12_wormSheets) dX12_inks_49 hpo hP hD hS
  have c4 := ci_ne c4
  refine lv_iload_n hx hb dX12_inks_7 rfl (lv_at hl 2 rfl) ?_
  refine lv_bipush (v := (-2)) hx hb dX12_inks_8 (by decide) ?_
  refine lv_icmp_lt (tgt := 48) hx hb dX12_inks_10 (by decide) (fun c5 => ?_) (fun c5 => ?_)
  · have c5 := ci_lt c5
    refine lv_iconst (v := (-1)) hx hb dX12_inks_48 (by decide) ?_
    have hpo : (0 ≤ v12_worms.toInt ∧ v12_worms.toInt ≤ 40) ∧ (∀ j : Nat, 0 ≤ (f12_sorted j).toInt ∧ (f12_sorted j).toInt ≤ 39) := ⟨i5, hf12_sorted⟩
    exact ret _ _ _ _ (-1) (v12_worms, f12_sorted, f12_wormOf, f12_wormSheets) dX12_inks_49 hpo hP hD hS
  have c5 := ci_nlt c5
  refine lv_iload_n hx hb dX12_inks_13 rfl (lv_at hl 2 rfl) ?_
  refine lv_if_lt (tgt := 50) hx hb dX12_inks_14 (by decide) (fun c6 => ?_) (fun c6 => ?_)
  · have c6 := ci_lt c6
    refine lv_aload_n hx hb dX12_inks_50 rfl (lv_at hl 0 rfl) ?_
    refine lv_iload_n hx hb dX12_inks_51 rfl (lv_at hl 1 rfl) ?_
    refine lv_iconst (v := (-1)) hx hb dX12_inks_52 (by decide) ?_
    refine kcm_v hA hAB hP hD hS [true, true, true, true, true, true, false, false, false, false] rfl (fun _ => rfl) (fun hPc hDc => va_runV (As := [.int p1, .int (-1)]) (rest := []) ⟨hx, hb, hml, hown, hts⟩ (k_X12_findWorms l D κ β a12 r12 v12_keptMany v12_done v12_sheets v12_holes v12_worms v12_laidMany v12_wanted v12_orderMany v12_firstOrder v12_lines v12_marks v12_dots v12_madeIn v12_bound v12_places v12_maps v12_tapeMany v12_stories v12_base v12_at v12_ends v12_fault v12_opened v12_bodies v12_ran v12_ownKind v12_ownNumber f12_sheetOf f12_placeOf f12_sorted f12_wormOf f12_wormSheets H.size p1 (-1) i1 i2 i3 i4 i5 i6 i7 i8 i9 i10 i11 i12 i13 i14 i15 i16 hf12_sheetOf hf12_placeOf hf12_sorted i17) (cwV 2 hts gX12_inks_X12_findWorms rfl rfl rfl (by decide +kernel) ⟨Nat.le_of_ble_eq_true rfl, Nat.le_of_ble_eq_true rfl⟩) (pk_V hK hS hAB hPc hDc 0 (ci := 12) rfl rfl rfl) rfl rfl hl.1 rfl (lv_room (Nat.le_of_ble_eq_true rfl)) dX12_inks_53 ⟨Nat.le_of_ble_eq_true rfl, Nat.le_of_ble_eq_true rfl⟩) (fun u11 H locs hw hPD hS => ?_)
    obtain ⟨x7, g8, g9, g10⟩ := u11
    obtain ⟨h12, h13⟩ : (0 ≤ x7.toInt ∧ x7.toInt ≤ 40) ∧ (∀ j : Nat, 0 ≤ (g8 j).toInt ∧ (g8 j).toInt ≤ 39) := hw
    obtain ⟨hP, hD⟩ : PD D A [O12 a12 r12 v12_keptMany v12_done v12_sheets v12_holes x7 v12_laidMany v12_wanted v12_orderMany v12_firstOrder v12_lines v12_marks v12_dots v12_madeIn v12_bound v12_places v12_maps v12_tapeMany v12_stories v12_base v12_at v12_ends v12_fault v12_opened v12_bodies v12_ran v12_ownKind v12_ownNumber, (cI κ (r12 8) 40 f12_sheetOf), (cI κ (r12 9) 40 f12_placeOf), (cI κ (r12 10) 40 g8), (cI κ (r12 11) 40 g9), (cI κ (r12 12) 40 g10), (cI κ (r12 22) 20 f12_lineInk), (cI κ (r12 24) 60 f12_markLine), (cI κ (r12 25) 60 f12_markHole), (cZ κ (r12 26) 60 f12_isOver)] H := hPD
    refine lv_iload_n hx hb dX12_inks_56 rfl (lv_at hl 2 rfl) ?_
    refine lv_if_ge (tgt := 77) hx hb dX12_inks_57 (by decide) (fun c14 => ?_) (fun c14 => ?_)
    · have c14 := ci_le c14
      refine lv_aload_n hx hb dX12_inks_77 rfl (lv_at hl 0 rfl) ?_
      refine lv_iload_n hx hb dX12_inks_78 rfl (lv_at hl 2 rfl) ?_
      refine lv_bipush (v := 10) hx hb dX12_inks_79 (by decide) ?_
      refine lv_idiv hx hb dX12_inks_81 (by decide) ?_
      refine lv_topi (fun x15 e16 => ?_)
      have h17 := ci_divL (n := 10) (by decide) (by decide) e16
      refine lv_iload_n hx hb dX12_inks_82 rfl (lv_at hl 2 rfl) ?_
      refine lv_bipush (v := 10) hx hb dX12_inks_83 (by decide) ?_
      refine lv_irem hx hb dX12_inks_85 (by decide) ?_
      refine lv_topi (fun x18 e19 => ?_)
      have h20 := ci_remL (n := 10) (by decide) (by decide) e19
      refine kcm_i hA hAB hP hD hS [true, false, false, false, true, false, true, true, true, true] rfl (fun _ => rfl) (fun hPc hDc => va_runV (As := [.int x15, .int x18]) (rest := []) ⟨hx, hb, hml, hown, hts⟩ (k_X12_cameFirst l D κ β a12 r12 v12_keptMany v12_done v12_sheets v12_holes x7 v12_laidMany v12_wanted v12_orderMany v12_firstOrder v12_lines v12_marks v12_dots v12_madeIn v12_bound v12_places v12_maps v12_tapeMany v12_stories v12_base v12_at v12_ends v12_fault v12_opened v12_bodies v12_ran v12_ownKind v12_ownNumber g9 f12_lineInk f12_markLine f12_markHole f12_isOver H.size x15 x18 i1 i2 i3 i4 h12 i6 i7 i8 i9 i10 i11 i12 i13 i14 i15 i16 hf12_markLine hf12_markHole i17) (cwV 2 hts gX12_inks_X12_cameFirst rfl rfl rfl (by decide +kernel) ⟨Nat.le_of_ble_eq_true rfl, Nat.le_of_ble_eq_true rfl⟩) (pk_V hK hS hAB hPc hDc 0 (ci := 12) rfl rfl rfl) rfl rfl hl.1 rfl (lv_room (Nat.le_of_ble_eq_true rfl)) dX12_inks_86 ⟨Nat.le_of_ble_eq_true rfl, Nat.le_of_ble_eq_true rfl⟩) (fun x21 u22 H locs hw hPD hS => ?_)
      have h23 : x21.toInt = 0 ∨ x21.toInt = 1 := hw
      obtain ⟨hP, hD⟩ : PD D A [O12 a12 r12 v12_keptMany v12_done v12_sheets v12_holes x7 v12_laidMany v12_wanted v12_orderMany v12_firstOrder v12_lines v12_marks v12_dots v12_madeIn v12_bound v12_places v12_maps v12_tapeMany v12_stories v12_base v12_at v12_ends v12_fault v12_opened v12_bodies v12_ran v12_ownKind v12_ownNumber, (cI κ (r12 8) 40 f12_sheetOf), (cI κ (r12 9) 40 f12_placeOf), (cI κ (r12 10) 40 g8), (cI κ (r12 11) 40 g9), (cI κ (r12 12) 40 g10), (cI κ (r12 22) 20 f12_lineInk), (cI κ (r12 24) 60 f12_markLine), (cI κ (r12 25) 60 f12_markHole), (cZ κ (r12 26) 60 f12_isOver)] H := hPD
      refine lv_if_eq (tgt := 96) hx hb dX12_inks_89 (by decide) (fun c24 => ?_) (fun c24 => ?_)
      · have c24 := ci_eq c24
        refine lv_iconst (v := 0) hx hb dX12_inks_96 (by decide) ?_
        have hpo : (0 ≤ x7.toInt ∧ x7.toInt ≤ 40) ∧ (∀ j : Nat, 0 ≤ (g8 j).toInt ∧ (g8 j).toInt ≤ 39) := ⟨h12, h13⟩
        exact ret _ _ _ _ 0 (x7, g8, g9, g10) dX12_inks_97 hpo hP hD hS
      have c24 := ci_ne c24
      refine lv_iconst (v := 1) hx hb dX12_inks_92 (by decide) ?_
      refine lv_goto (tgt := 97) hx hb dX12_inks_93 (by decide) ?_
      have hpo : (0 ≤ x7.toInt ∧ x7.toInt ≤ 40) ∧ (∀ j : Nat, 0 ≤ (g8 j).toInt ∧ (g8 j).toInt ≤ 39) := ⟨h12, h13⟩
      exact ret _ _ _ _ 1 (x7, g8, g9, g10) dX12_inks_97 hpo hP hD hS
    have c14 := ci_nle c14
    refine lv_iload_n hx hb dX12_inks_60 rfl (lv_at hl 2 rfl) ?_
    refine lv_iconst (v := (-1)) hx hb dX12_inks_61 (by decide) ?_
    refine lv_icmp_ne (tgt := 72) hx hb dX12_inks_62 (by decide) (fun c25 => ?_) (fun c25 => ?_)
    · have c25 := ci_ne c25
      refine lv_aload_n hx hb dX12_inks_72 rfl (lv_at hl 0 rfl) ?_
      refine kcm_i hA hAB hP hD hS [true, false, false, false, true, false, true, true, true, true] rfl (fun _ => rfl) (fun hPc hDc => va_runV (As := []) (rest := []) ⟨hx, hb, hml, hown, hts⟩ (k_X12_ringOf l D κ β a12 r12 v12_keptMany v12_done v12_sheets v12_holes x7 v12_laidMany v12_wanted v12_orderMany v12_firstOrder v12_lines v12_marks v12_dots v12_madeIn v12_bound v12_places v12_maps v12_tapeMany v12_stories v12_base v12_at v12_ends v12_fault v12_opened v12_bodies v12_ran v12_ownKind v12_ownNumber g9 f12_lineInk f12_markLine f12_markHole f12_isOver H.size i1 i2 i3 i4 h12 i6 i7 i8 i9 i10 i11 i12 i13 i14 i15 i16 hf12_markLine hf12_markHole i17) (cwV 0 hts gX12_inks_X12_ringOf rfl rfl rfl (by decide +kernel) ⟨Nat.le_of_ble_eq_true rfl, Nat.le_of_ble_eq_true rfl⟩) (pk_V hK hS hAB hPc hDc 0 (ci := 12) rfl rfl rfl) rfl rfl hl.1 rfl (lv_room (Nat.le_of_ble_eq_true rfl)) dX12_inks_73 ⟨Nat.le_of_ble_eq_true rfl, Nat.le_of_ble_eq_true rfl⟩) (fun x26 u27 H locs hw hPD hS => ?_)
      obtain ⟨hP, hD⟩ : PD D A [O12 a12 r12 v12_keptMany v12_done v12_sheets v12_holes x7 v12_laidMany v12_wanted v12_orderMany v12_firstOrder v12_lines v12_marks v12_dots v12_madeIn v12_bound v12_places v12_maps v12_tapeMany v12_stories v12_base v12_at v12_ends v12_fault v12_opened v12_bodies v12_ran v12_ownKind v12_ownNumber, (cI κ (r12 8) 40 f12_sheetOf), (cI κ (r12 9) 40 f12_placeOf), (cI κ (r12 10) 40 g8), (cI κ (r12 11) 40 g9), (cI κ (r12 12) 40 g10), (cI κ (r12 22) 20 f12_lineInk), (cI κ (r12 24) 60 f12_markLine), (cI κ (r12 25) 60 f12_markHole), (cZ κ (r12 26) 60 f12_isOver)] H := hPD
      have hpo : (0 ≤ x7.toInt ∧ x7.toInt ≤ 40) ∧ (∀ j : Nat, 0 ≤ (g8 j).toInt ∧ (g8 j).toInt ≤ 39) := ⟨h12, h13⟩
      exact ret _ _ _ _ x26 (x7, g8, g9, g10) dX12_inks_76 hpo hP hD hS
    have c25 := ci_eq c25
    refine lv_aload_n hx hb dX12_inks_65 rfl (lv_at hl 0 rfl) ?_
    refine kcm_i hA hAB hP hD hS [true, false, false, false, true, false, true, true, true, true] rfl (fun _ => rfl) (fun hPc hDc => va_runV (As := []) (rest := []) ⟨hx, hb, hml, hown, hts⟩ (k_X12_firstInk l D κ β a12 r12 v12_keptMany v12_done v12_sheets v12_holes x7 v12_laidMany v12_wanted v12_orderMany v12_firstOrder v12_lines v12_marks v12_dots v12_madeIn v12_bound v12_places v12_maps v12_tapeMany v12_stories v12_base v12_at v12_ends v12_fault v12_opened v12_bodies v12_ran v12_ownKind v12_ownNumber g9 f12_lineInk f12_markLine f12_markHole f12_isOver H.size i1 i2 i3 i4 h12 i6 i7 i8 i9 i10 i11 i12 i13 i14 i15 i16 hf12_markLine hf12_markHole i17) (cwV 0 hts gX12_inks_X12_firstInk rfl rfl rfl (by decide +kernel) ⟨Nat.le_of_ble_eq_true rfl, Nat.le_of_ble_eq_true rfl⟩) (pk_V hK hS hAB hPc hDc 0 (ci := 12) rfl rfl rfl) rfl rfl hl.1 rfl (lv_room (Nat.le_of_ble_eq_true rfl)) dX12_inks_66 ⟨Nat.le_of_ble_eq_true rfl, Nat.le_of_ble_eq_true rfl⟩) (fun x28 u29 H locs hw hPD hS => ?_)
    obtain ⟨hP, hD⟩ : PD D A [O12 a12 r12 v12_keptMany v12_done v12_sheets v12_holes x7 v12_laidMany v12_wanted v12_orderMany v12_firstOrder v12_lines v12_marks v12_dots v12_madeIn v12_bound v12_places v12_maps v12_tapeMany v12_stories v12_base v12_at v12_ends v12_fault v12_opened v12_bodies v12_ran v12_ownKind v12_ownNumber, (cI κ (r12 8) 40 f12_sheetOf), (cI κ (r12 9) 40 f12_placeOf), (cI κ (r12 10) 40 g8), (cI κ (r12 11) 40 g9), (cI κ (r12 12) 40 g10), (cI κ (r12 22) 20 f12_lineInk), (cI κ (r12 24) 60 f12_markLine), (cI κ (r12 25) 60 f12_markHole), (cZ κ (r12 26) 60 f12_isOver)] H := hPD
    refine lv_goto (tgt := 76) hx hb dX12_inks_69 (by decide) ?_
    have hpo : (0 ≤ x7.toInt ∧ x7.toInt ≤ 40) ∧ (∀ j : Nat, 0 ≤ (g8 j).toInt ∧ (g8 j).toInt ≤ 39) := ⟨h12, h13⟩
    exact ret _ _ _ _ x28 (x7, g8, g9, g10) dX12_inks_76 hpo hP hD hS
  have c6 := ci_nlt c6
  refine lv_iload_n hx hb dX12_inks_17 rfl (lv_at hl 2 rfl) ?_
  refine lv_bipush (v := 10) hx hb dX12_inks_18 (by decide) ?_
  refine lv_idiv hx hb dX12_inks_20 (by decide) ?_
  refine lv_topi (fun x30 e31 => ?_)
  have h32 := ci_divL (n := 10) (by decide) (by decide) e31
  refine kcm_i hA hAB hP hD hS [false, false, false, false, false, false, false, false, false, false] rfl (fun _ => rfl) (fun hPc hDc => va_runS (As := [.int x30]) (rest := []) ⟨hx, hb, hml, hown, hts⟩ (k_X12_isInk l D κ β H.size x30) (va_cwS 1 hts gX12_inks_X12_isInk rfl rfl rfl (by decide +kernel) ⟨Nat.le_of_ble_eq_true rfl, Nat.le_of_ble_eq_true rfl⟩) (pk_S hK hS hAB hPc hDc) rfl rfl hl.1 rfl (lv_room (Nat.le_of_ble_eq_true rfl)) dX12_inks_21 ⟨Nat.le_of_ble_eq_true rfl, Nat.le_of_ble_eq_true rfl⟩) (fun x33 u34 H locs hw hPD hS => ?_)
  have h35 : (x33.toInt = 1 ∧ 0 ≤ x30.toInt ∧ x30.toInt ≤ 5) ∨ (x33.toInt = 0 ∧ (x30.toInt < 0 ∨ 5 < x30.toInt)) := hw
  obtain ⟨hP, hD⟩ : PD D A [O12 a12 r12 v12_keptMany v12_done v12_sheets v12_holes v12_worms v12_laidMany v12_wanted v12_orderMany v12_firstOrder v12_lines v12_marks v12_dots v12_madeIn v12_bound v12_places v12_maps v12_tapeMany v12_stories v12_base v12_at v12_ends v12_fault v12_opened v12_bodies v12_ran v12_ownKind v12_ownNumber, (cI κ (r12 8) 40 f12_sheetOf), (cI κ (r12 9) 40 f12_placeOf), (cI κ (r12 10) 40 f12_sorted), (cI κ (r12 11) 40 f12_wormOf), (cI κ (r12 12) 40 f12_wormSheets), (cI κ (r12 22) 20 f12_lineInk), (cI κ (r12 24) 60 f12_markLine), (cI κ (r12 25) 60 f12_markHole), (cZ κ (r12 26) 60 f12_isOver)] H := hPD
  refine lv_if_eq (tgt := 48) hx hb dX12_inks_24 (by decide) (fun c36 => ?_) (fun c36 => ?_)
  · have c36 := ci_eq c36
    refine lv_iconst (v := (-1)) hx hb dX12_inks_48 (by decide) ?_
    have hpo : (0 ≤ v12_worms.toInt ∧ v12_worms.toInt ≤ 40) ∧ (∀ j : Nat, 0 ≤ (f12_sorted j).toInt ∧ (f12_sorted j).toInt ≤ 39) := ⟨i5, hf12_sorted⟩
    exact ret _ _ _ _ (-1) (v12_worms, f12_sorted, f12_wormOf, f12_wormSheets) dX12_inks_49 hpo hP hD hS
  have c36 := ci_ne c36
  refine lv_iload_n hx hb dX12_inks_27 rfl (lv_at hl 2 rfl) ?_
  refine lv_bipush (v := 10) hx hb dX12_inks_28 (by decide) ?_
  refine lv_irem hx hb dX12_inks_30 (by decide) ?_
  refine lv_topi (fun x37 e38 => ?_)
  have h39 := ci_remL (n := 10) (by decide) (by decide) e38
  refine kcm_i hA hAB hP hD hS [false, false, false, false, false, false, false, false, false, false] rfl (fun _ => rfl) (fun hPc hDc => va_runS (As := [.int x37]) (rest := []) ⟨hx, hb, hml, hown, hts⟩ (k_X12_isInk l D κ β H.size x37) (va_cwS 1 hts gX12_inks_X12_isInk rfl rfl rfl (by decide +kernel) ⟨Nat.le_of_ble_eq_true rfl, Nat.le_of_ble_eq_true rfl⟩) (pk_S hK hS hAB hPc hDc) rfl rfl hl.1 rfl (lv_room (Nat.le_of_ble_eq_true rfl)) dX12_inks_31 ⟨Nat.le_of_ble_eq_true rfl, Nat.le_of_ble_eq_true rfl⟩) (fun x40 u41 H locs hw hPD hS => ?_)
  have h42 : (x40.toInt = 1 ∧ 0 ≤ x37.toInt ∧ x37.toInt ≤ 5) ∨ (x40.toInt = 0 ∧ (x37.toInt < 0 ∨ 5 < x37.toInt)) := hw
  obtain ⟨hP, hD⟩ : PD D A [O12 a12 r12 v12_keptMany v12_done v12_sheets v12_holes v12_worms v12_laidMany v12_wanted v12_orderMany v12_firstOrder v12_lines v12_marks v12_dots v12_madeIn v12_bound v12_places v12_maps v12_tapeMany v12_stories v12_base v12_at v12_ends v12_fault v12_opened v12_bodies v12_ran v12_ownKind v12_ownNumber, (cI κ (r12 8) 40 f12_sheetOf), (cI κ (r12 9) 40 f12_placeOf), (cI κ (r12 10) 40 f12_sorted), (cI κ (r12 11) 40 f12_wormOf), (cI κ (r12 12) 40 f12_wormSheets), (cI κ (r12 22) 20 f12_lineInk), (cI κ (r12 24) 60 f12_markLine), (cI κ (r12 25) 60 f12_markHole), (cZ κ (r12 26) 60 f12_isOver)] H := hPD
  refine lv_if_eq (tgt := 48) hx hb dX12_inks_34 (by decide) (fun c43 => ?_) (fun c43 => ?_)
  · have c43 := ci_eq c43
    refine lv_iconst (v := (-1)) hx hb dX12_inks_48 (by decide) ?_
    have hpo : (0 ≤ v12_worms.toInt ∧ v12_worms.toInt ≤ 40) ∧ (∀ j : Nat, 0 ≤ (f12_sorted j).toInt ∧ (f12_sorted j).toInt ≤ 39) := ⟨i5, hf12_sorted⟩
    exact ret _ _ _ _ (-1) (v12_worms, f12_sorted, f12_wormOf, f12_wormSheets) dX12_inks_49 hpo hP hD hS
  have c43 := ci_ne c43
  refine lv_iload_n hx hb dX12_inks_37 rfl (lv_at hl 2 rfl) ?_
  refine lv_bipush (v := 10) hx hb dX12_inks_38 (by decide) ?_
  refine lv_idiv hx hb dX12_inks_40 (by decide) ?_
  refine lv_re e31 ?_
  refine lv_iload_n hx hb dX12_inks_41 rfl (lv_at hl 2 rfl) ?_
  refine lv_bipush (v := 10) hx hb dX12_inks_42 (by decide) ?_
  refine lv_irem hx hb dX12_inks_44 (by decide) ?_
  refine lv_re e38 ?_
  refine lv_icmp_ne (tgt := 50) hx hb dX12_inks_45 (by decide) (fun c44 => ?_) (fun c44 => ?_)
  · have c44 := ci_ne c44
    refine lv_aload_n hx hb dX12_inks_50 rfl (lv_at hl 0 rfl) ?_
    refine lv_iload_n hx hb dX12_inks_51 rfl (lv_at hl 1 rfl) ?_
    refine lv_iconst (v := (-1)) hx hb dX12_inks_52 (by decide) ?_
    refine kcm_v hA hAB hP hD hS [true, true, true, true, true, true, false, false, false, false] rfl (fun _ => rfl) (fun hPc hDc => va_runV (As := [.int p1, .int (-1)]) (rest := []) ⟨hx, hb, hml, hown, hts⟩ (k_X12_findWorms l D κ β a12 r12 v12_keptMany v12_done v12_sheets v12_holes v12_worms v12_laidMany v12_wanted v12_orderMany v12_firstOrder v12_lines v12_marks v12_dots v12_madeIn v12_bound v12_places v12_maps v12_tapeMany v12_stories v12_base v12_at v12_ends v12_fault v12_opened v12_bodies v12_ran v12_ownKind v12_ownNumber f12_sheetOf f12_placeOf f12_sorted f12_wormOf f12_wormSheets H.size p1 (-1) i1 i2 i3 i4 i5 i6 i7 i8 i9 i10 i11 i12 i13 i14 i15 i16 hf12_sheetOf hf12_placeOf hf12_sorted i17) (cwV 2 hts gX12_inks_X12_findWorms rfl rfl rfl (by decide +kernel) ⟨Nat.le_of_ble_eq_true rfl, Nat.le_of_ble_eq_true rfl⟩) (pk_V hK hS hAB hPc hDc 0 (ci := 12) rfl rfl rfl) rfl rfl hl.1 rfl (lv_room (Nat.le_of_ble_eq_true rfl)) dX12_inks_53 ⟨Nat.le_of_ble_eq_true rfl, Nat.le_of_ble_eq_true rfl⟩) (fun u49 H locs hw hPD hS => ?_)
    obtain ⟨x45, g46, g47, g48⟩ := u49
    obtain ⟨h50, h51⟩ : (0 ≤ x45.toInt ∧ x45.toInt ≤ 40) ∧ (∀ j : Nat, 0 ≤ (g46 j).toInt ∧ (g46 j).toInt ≤ 39) := hw
    obtain ⟨hP, hD⟩ : PD D A [O12 a12 r12 v12_keptMany v12_done v12_sheets v12_holes x45 v12_laidMany v12_wanted v12_orderMany v12_firstOrder v12_lines v12_marks v12_dots v12_madeIn v12_bound v12_places v12_maps v12_tapeMany v12_stories v12_base v12_at v12_ends v12_fault v12_opened v12_bodies v12_ran v12_ownKind v12_ownNumber, (cI κ (r12 8) 40 f12_sheetOf), (cI κ (r12 9) 40 f12_placeOf), (cI κ (r12 10) 40 g46), (cI κ (r12 11) 40 g47), (cI κ (r12 12) 40 g48), (cI κ (r12 22) 20 f12_lineInk), (cI κ (r12 24) 60 f12_markLine), (cI κ (r12 25) 60 f12_markHole), (cZ κ (r12 26) 60 f12_isOver)] H := hPD
    refine lv_iload_n hx hb dX12_inks_56 rfl (lv_at hl 2 rfl) ?_
    refine lv_if_ge (tgt := 77) hx hb dX12_inks_57 (by decide) (fun c52 => ?_) (fun c52 => ?_)
    · have c52 := ci_le c52
      refine lv_aload_n hx hb dX12_inks_77 rfl (lv_at hl 0 rfl) ?_
      refine lv_iload_n hx hb dX12_inks_78 rfl (lv_at hl 2 rfl) ?_
      refine lv_bipush (v := 10) hx hb dX12_inks_79 (by decide) ?_
      refine lv_idiv hx hb dX12_inks_81 (by decide) ?_
      refine lv_re e31 ?_
      refine lv_iload_n hx hb dX12_inks_82 rfl (lv_at hl 2 rfl) ?_
      refine lv_bipush (v := 10) hx hb dX12_inks_83 (by decide) ?_
      refine lv_irem hx hb dX12_inks_85 (by decide) ?_
      refine lv_re e38 ?_
      refine kcm_i hA hAB hP hD hS [true, false, false, false, true, false, true, true, true, true] rfl (fun _ => rfl) (fun hPc hDc => va_runV (As := [.int x30, .int x37]) (rest := []) ⟨hx, hb, hml, hown, hts⟩ (k_X12_cameFirst l D κ β a12 r12 v12_keptMany v12_done v12_sheets v12_holes x45 v12_laidMany v12_wanted v12_orderMany v12_firstOrder v12_lines v12_marks v12_dots v12_madeIn v12_bound v12_places v12_maps v12_tapeMany v12_stories v12_base v12_at v12_ends v12_fault v12_opened v12_bodies v12_ran v12_ownKind v12_ownNumber g47 f12_lineInk f12_markLine f12_markHole f12_isOver H.size x30 x37 i1 i2 i3 i4 h50 i6 i7 i8 i9 i10 i11 i12 i13 i14 i15 i16 hf12_markLine hf12_markHole i17) (cwV 2 hts gX12_inks_X12_cameFirst rfl rfl rfl (by decide +kernel) ⟨Nat.le_of_ble_eq_true rfl, Nat.le_of_ble_eq_true rfl⟩) (pk_V hK hS hAB hPc hDc 0 (ci := 12) rfl rfl rfl) rfl rfl hl.1 rfl (lv_room (Nat.le_of_ble_eq_true rfl)) dX12_inks_86 ⟨Nat.le_of_ble_eq_true rfl, Nat.le_of_ble_eq_true rfl⟩) (fun x53 u54 H locs hw hPD hS => ?_)
      have h55 : x53.toInt = 0 ∨ x53.toInt = 1 := hw
      obtain ⟨hP, hD⟩ : PD D A [O12 a12 r12 v12_keptMany v12_done v12_sheets v12_holes x45 v12_laidMany v12_wanted v12_orderMany v12_firstOrder v12_lines v12_marks v12_dots v12_madeIn v12_bound v12_places v12_maps v12_tapeMany v12_stories v12_base v12_at v12_ends v12_fault v12_opened v12_bodies v12_ran v12_ownKind v12_ownNumber, (cI κ (r12 8) 40 f12_sheetOf), (cI κ (r12 9) 40 f12_placeOf), (cI κ (r12 10) 40 g46), (cI κ (r12 11) 40 g47), (cI κ (r12 12) 40 g48), (cI κ (r12 22) 20 f12_lineInk), (cI κ (r12 24) 60 f12_markLine), (cI κ (r12 25) 60 f12_markHole), (cZ κ (r12 26) 60 f12_isOver)] H := hPD
      refine lv_if_eq (tgt := 96) hx hb dX12_inks_89 (by decide) (fun c56 => ?_) (fun c56 => ?_)
      · have c56 := ci_eq c56
        refine lv_iconst (v := 0) hx hb dX12_inks_96 (by decide) ?_
        have hpo : (0 ≤ x45.toInt ∧ x45.toInt ≤ 40) ∧ (∀ j : Nat, 0 ≤ (g46 j).toInt ∧ (g46 j).toInt ≤ 39) := ⟨h50, h51⟩
        exact ret _ _ _ _ 0 (x45, g46, g47, g48) dX12_inks_97 hpo hP hD hS
      have c56 := ci_ne c56
      refine lv_iconst (v := 1) hx hb dX12_inks_92 (by decide) ?_
      refine lv_goto (tgt := 97) hx hb dX12_inks_93 (by decide) ?_
      have hpo : (0 ≤ x45.toInt ∧ x45.toInt ≤ 40) ∧ (∀ j : Nat, 0 ≤ (g46 j).toInt ∧ (g46 j).toInt ≤ 39) := ⟨h50, h51⟩
      exact ret _ _ _ _ 1 (x45, g46, g47, g48) dX12_inks_97 hpo hP hD hS
    have c52 := ci_nle c52
    refine lv_iload_n hx hb dX12_inks_60 rfl (lv_at hl 2 rfl) ?_
    refine lv_iconst (v := (-1)) hx hb dX12_inks_61 (by decide) ?_
    refine lv_icmp_ne (tgt := 72) hx hb dX12_inks_62 (by decide) (fun c57 => ?_) (fun c57 => ?_)
    · have c57 := ci_ne c57
      refine lv_aload_n hx hb dX12_inks_72 rfl (lv_at hl 0 rfl) ?_
      refine kcm_i hA hAB hP hD hS [true, false, false, false, true, false, true, true, true, true] rfl (fun _ => rfl) (fun hPc hDc => va_runV (As := []) (rest := []) ⟨hx, hb, hml, hown, hts⟩ (k_X12_ringOf l D κ β a12 r12 v12_keptMany v12_done v12_sheets v12_holes x45 v12_laidMany v12_wanted v12_orderMany v12_firstOrder v12_lines v12_marks v12_dots v12_madeIn v12_bound v12_places v12_maps v12_tapeMany v12_stories v12_base v12_at v12_ends v12_fault v12_opened v12_bodies v12_ran v12_ownKind v12_ownNumber g47 f12_lineInk f12_markLine f12_markHole f12_isOver H.size i1 i2 i3 i4 h50 i6 i7 i8 i9 i10 i11 i12 i13 i14 i15 i16 hf12_markLine hf12_markHole i17) (cwV 0 hts gX12_inks_X12_ringOf rfl rfl rfl (by decide +kernel) ⟨Nat.le_of_ble_eq_true rfl, Nat.le_of_ble_eq_true rfl⟩) (pk_V hK hS hAB hPc hDc 0 (ci := 12) rfl rfl rfl) rfl rfl hl.1 rfl (lv_room (Nat.le_of_ble_eq_true rfl)) dX12_inks_73 ⟨Nat.le_of_ble_eq_true rfl, Nat.le_of_ble_eq_true rfl⟩) (fun x58 u59 H locs hw hPD hS => ?_)
      obtain ⟨hP, hD⟩ : PD D A [O12 a12 r12 v12_keptMany v12_done v12_sheets v12_holes x45 v12_laidMany v12_wanted v12_orderMany v12_firstOrder v12_lines v12_marks v12_dots v12_madeIn v12_bound v12_places v12_maps v12_tapeMany v12_stories v12_base v12_at v12_ends v12_fault v12_opened v12_bodies v12_ran v12_ownKind v12_ownNumber, (cI κ (r12 8) 40 f12_sheetOf), (cI κ (r12 9) 40 f12_placeOf), (cI κ (r12 10) 40 g46), (cI κ (r12 11) 40 g47), (cI κ (r12 12) 40 g48), (cI κ (r12 22) 20 f12_lineInk), (cI κ (r12 24) 60 f12_markLine), (cI κ (r12 25) 60 f12_markHole), (cZ κ (r12 26) 60 f12_isOver)] H := hPD
      have hpo : (0 ≤ x45.toInt ∧ x45.toInt ≤ 40) ∧ (∀ j : Nat, 0 ≤ (g46 j).toInt ∧ (g46 j).toInt ≤ 39) := ⟨h50, h51⟩
      exact ret _ _ _ _ x58 (x45, g46, g47, g48) dX12_inks_76 hpo hP hD hS
    have c57 := ci_eq c57
    refine lv_aload_n hx hb dX12_inks_65 rfl (lv_at hl 0 rfl) ?_
    refine kcm_i hA hAB hP hD hS [true, false, false, false, true, false, true, true, true, true] rfl (fun _ => rfl) (fun hPc hDc => va_runV (As := []) (rest := []) ⟨hx, hb, hml, hown, hts⟩ (k_X12_firstInk l D κ β a12 r12 v12_keptMany v12_done v12_sheets v12_holes x45 v12_laidMany v12_wanted v12_orderMany v12_firstOrder v12_lines v12_marks v12_dots v12_madeIn v12_bound v12_places v12_maps v12_tapeMany v12_stories v12_base v12_at v12_ends v12_fault v12_opened v12_bodies v12_ran v12_ownKind v12_ownNumber g47 f12_lineInk f12_markLine f12_markHole f12_isOver H.size i1 i2 i3 i4 h50 i6 i7 i8 i9 i10 i11 i12 i13 i14 i15 i16 hf12_markLine hf12_markHole i17) (cwV 0 hts gX12_inks_X12_firstInk rfl rfl rfl (by decide +kernel) ⟨Nat.le_of_ble_eq_true rfl, Nat.le_of_ble_eq_true rfl⟩) (pk_V hK hS hAB hPc hDc 0 (ci := 12) rfl rfl rfl) rfl rfl hl.1 rfl (lv_room (Nat.le_of_ble_eq_true rfl)) dX12_inks_66 ⟨Nat.le_of_ble_eq_true rfl, Nat.le_of_ble_eq_true rfl⟩) (fun x60 u61 H locs hw hPD hS => ?_)
    obtain ⟨hP, hD⟩ : PD D A [O12 a12 r12 v12_keptMany v12_done v12_sheets v12_holes x45 v12_laidMany v12_wanted v12_orderMany v12_firstOrder v12_lines v12_marks v12_dots v12_madeIn v12_bound v12_places v12_maps v12_tapeMany v12_stories v12_base v12_at v12_ends v12_fault v12_opened v12_bodies v12_ran v12_ownKind v12_ownNumber, (cI κ (r12 8) 40 f12_sheetOf), (cI κ (r12 9) 40 f12_placeOf), (cI κ (r12 10) 40 g46), (cI κ (r12 11) 40 g47), (cI κ (r12 12) 40 g48), (cI κ (r12 22) 20 f12_lineInk), (cI κ (r12 24) 60 f12_markLine), (cI κ (r12 25) 60 f12_markHole), (cZ κ (r12 26) 60 f12_isOver)] H := hPD
    refine lv_goto (tgt := 76) hx hb dX12_inks_69 (by decide) ?_
    have hpo : (0 ≤ x45.toInt ∧ x45.toInt ≤ 40) ∧ (∀ j : Nat, 0 ≤ (g46 j).toInt ∧ (g46 j).toInt ≤ 39) := ⟨h50, h51⟩
    exact ret _ _ _ _ x60 (x45, g46, g47, g48) dX12_inks_76 hpo hP hD hS
  have c44 := ci_eq c44
  refine lv_iconst (v := (-1)) hx hb dX12_inks_48 (by decide) ?_
  have hpo : (0 ≤ v12_worms.toInt ∧ v12_worms.toInt ≤ 40) ∧ (∀ j : Nat, 0 ≤ (f12_sorted j).toInt ∧ (f12_sorted j).toInt ≤ 39) := ⟨i5, hf12_sorted⟩
  exact ret _ _ _ _ (-1) (v12_worms, f12_sorted, f12_wormOf, f12_wormSheets) dX12_inks_49 hpo hP hD hS
